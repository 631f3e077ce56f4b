section
-- ===== PART A: goes FIRST, ahead of the names: the tables' words, and 'selects' of the private methods out of them =====
/-- a private method of a class that the tables say can be made, by its rows of tables_1 -/
def lw_okq (q : MethodName × Nat) : Prop := (q.1.cls ≠ "java/lang/invoke/MethodHandle" ∧ q.1.cls ≠ "java/lang/invoke/VarHandle") ∧ Cond.instantiable q.1.cls q.2 ∈ tables_1 ∧ Cond.privateMethod q.1 ∈ tables_1 ∧ Cond.instanceMethod q.1 ∈ tables_1
theorem lw_p0 : lw_okq (⟨"SlantOaths$Oaths", "joinHands", "()V"⟩, 6) := ⟨⟨by decide +kernel, by decide +kernel⟩, List.mem_of_getElem? (i := 116) (by decide +kernel), List.mem_of_getElem? (i := 152) (by decide +kernel), List.mem_of_getElem? (i := 153) (by decide +kernel)⟩
theorem lw_p1 : lw_okq (⟨"SlantOaths$Oaths", "joinTwo", "(II)V"⟩, 6) := ⟨⟨by decide +kernel, by decide +kernel⟩, List.mem_of_getElem? (i := 116) (by decide +kernel), List.mem_of_getElem? (i := 161) (by decide +kernel), List.mem_of_getElem? (i := 162) (by decide +kernel)⟩
theorem lw_p2 : lw_okq (⟨"SlantOaths$Text", "begin", "()V"⟩, 10) := ⟨⟨by decide +kernel, by decide +kernel⟩, List.mem_of_getElem? (i := 27) (by decide +kernel), List.mem_of_getElem? (i := 250) (by decide +kernel), List.mem_of_getElem? (i := 251) (by decide +kernel)⟩
theorem lw_p3 : lw_okq (⟨"SlantOaths$Text", "readPart", "()V"⟩, 10) := ⟨⟨by decide +kernel, by decide +kernel⟩, List.mem_of_getElem? (i := 27) (by decide +kernel), List.mem_of_getElem? (i := 254) (by decide +kernel), List.mem_of_getElem? (i := 255) (by decide +kernel)⟩
theorem lw_p4 : lw_okq (⟨"SlantOaths$Text", "codeHere", "()I"⟩, 10) := ⟨⟨by decide +kernel, by decide +kernel⟩, List.mem_of_getElem? (i := 27) (by decide +kernel), List.mem_of_getElem? (i := 258) (by decide +kernel), List.mem_of_getElem? (i := 259) (by decide +kernel)⟩
theorem lw_p5 : lw_okq (⟨"SlantOaths$Text", "skip", "(I)Z"⟩, 10) := ⟨⟨by decide +kernel, by decide +kernel⟩, List.mem_of_getElem? (i := 27) (by decide +kernel), List.mem_of_getElem? (i := 263) (by decide +kernel), List.mem_of_getElem? (i := 264) (by decide +kernel)⟩
theorem lw_p6 : lw_okq (⟨"SlantOaths$Text", "readNumber", "(II)I"⟩, 10) := ⟨⟨by decide +kernel, by decide +kernel⟩, List.mem_of_getElem? (i := 27) (by decide +kernel), List.mem_of_getElem? (i := 267) (by decide +kernel), List.mem_of_getElem? (i := 268) (by decide +kernel)⟩
theorem lw_p7 : lw_okq (⟨"SlantOaths$Text", "digitHere", "()I"⟩, 10) := ⟨⟨by decide +kernel, by decide +kernel⟩, List.mem_of_getElem? (i := 27) (by decide +kernel), List.mem_of_getElem? (i := 271) (by decide +kernel), List.mem_of_getElem? (i := 272) (by decide +kernel)⟩
theorem lw_p8 : lw_okq (⟨"SlantOaths$Text", "need", "(I)V"⟩, 10) := ⟨⟨by decide +kernel, by decide +kernel⟩, List.mem_of_getElem? (i := 27) (by decide +kernel), List.mem_of_getElem? (i := 275) (by decide +kernel), List.mem_of_getElem? (i := 276) (by decide +kernel)⟩
theorem lw_p9 : lw_okq (⟨"SlantOaths$Text", "isComplete", "()Z"⟩, 10) := ⟨⟨by decide +kernel, by decide +kernel⟩, List.mem_of_getElem? (i := 27) (by decide +kernel), List.mem_of_getElem? (i := 280) (by decide +kernel), List.mem_of_getElem? (i := 281) (by decide +kernel)⟩
theorem lw_p10 : lw_okq (⟨"SlantOaths$Text", "readStroke", "()V"⟩, 10) := ⟨⟨by decide +kernel, by decide +kernel⟩, List.mem_of_getElem? (i := 27) (by decide +kernel), List.mem_of_getElem? (i := 288) (by decide +kernel), List.mem_of_getElem? (i := 289) (by decide +kernel)⟩
theorem lw_p11 : lw_okq (⟨"SlantOaths$Table", "areOfOneHand", "(II)Z"⟩, 8) := ⟨⟨by decide +kernel, by decide +kernel⟩, List.mem_of_getElem? (i := 83) (by decide +kernel), List.mem_of_getElem? (i := 314) (by decide +kernel), List.mem_of_getElem? (i := 315) (by decide +kernel)⟩
theorem lw_p12 : lw_okq (⟨"SlantOaths$Table", "agreeing", "(III)I"⟩, 8) := ⟨⟨by decide +kernel, by decide +kernel⟩, List.mem_of_getElem? (i := 83) (by decide +kernel), List.mem_of_getElem? (i := 326) (by decide +kernel), List.mem_of_getElem? (i := 327) (by decide +kernel)⟩
theorem lw_p13 : lw_okq (⟨"SlantOaths$Table", "fadedMarks", "(I)I"⟩, 8) := ⟨⟨by decide +kernel, by decide +kernel⟩, List.mem_of_getElem? (i := 83) (by decide +kernel), List.mem_of_getElem? (i := 345) (by decide +kernel), List.mem_of_getElem? (i := 346) (by decide +kernel)⟩
theorem lw_p14 : lw_okq (⟨"SlantOaths", "toldCount", "(I)I"⟩, 5) := ⟨⟨by decide +kernel, by decide +kernel⟩, List.mem_of_getElem? (i := 19) (by decide +kernel), List.mem_of_getElem? (i := 360) (by decide +kernel), List.mem_of_getElem? (i := 361) (by decide +kernel)⟩
theorem lw_p15 : lw_okq (⟨"SlantOaths$Table", "mostOfAHand", "()I"⟩, 8) := ⟨⟨by decide +kernel, by decide +kernel⟩, List.mem_of_getElem? (i := 83) (by decide +kernel), List.mem_of_getElem? (i := 377) (by decide +kernel), List.mem_of_getElem? (i := 378) (by decide +kernel)⟩
def lw_privs_1 : List (MethodName × Nat) := [(⟨"SlantOaths$Oaths", "joinHands", "()V"⟩, 6), (⟨"SlantOaths$Oaths", "joinTwo", "(II)V"⟩, 6), (⟨"SlantOaths$Text", "begin", "()V"⟩, 10), (⟨"SlantOaths$Text", "readPart", "()V"⟩, 10), (⟨"SlantOaths$Text", "codeHere", "()I"⟩, 10), (⟨"SlantOaths$Text", "skip", "(I)Z"⟩, 10), (⟨"SlantOaths$Text", "readNumber", "(II)I"⟩, 10), (⟨"SlantOaths$Text", "digitHere", "()I"⟩, 10), (⟨"SlantOaths$Text", "need", "(I)V"⟩, 10), (⟨"SlantOaths$Text", "isComplete", "()Z"⟩, 10), (⟨"SlantOaths$Text", "readStroke", "()V"⟩, 10), (⟨"SlantOaths$Table", "areOfOneHand", "(II)Z"⟩, 8), (⟨"SlantOaths$Table", "agreeing", "(III)I"⟩, 8), (⟨"SlantOaths$Table", "fadedMarks", "(I)I"⟩, 8), (⟨"SlantOaths", "toldCount", "(I)I"⟩, 5), (⟨"SlantOaths$Table", "mostOfAHand", "()I"⟩, 8)]
theorem lw_r1 : ∀ q ∈ lw_privs_1, lw_okq q := List.forall_mem_cons.mpr ⟨lw_p0, List.forall_mem_cons.mpr ⟨lw_p1, List.forall_mem_cons.mpr ⟨lw_p2, List.forall_mem_cons.mpr ⟨lw_p3, List.forall_mem_cons.mpr ⟨lw_p4, List.forall_mem_cons.mpr ⟨lw_p5, List.forall_mem_cons.mpr ⟨lw_p6, List.forall_mem_cons.mpr ⟨lw_p7, List.forall_mem_cons.mpr ⟨lw_p8, List.forall_mem_cons.mpr ⟨lw_p9, List.forall_mem_cons.mpr ⟨lw_p10, List.forall_mem_cons.mpr ⟨lw_p11, List.forall_mem_cons.mpr ⟨lw_p12, List.forall_mem_cons.mpr ⟨lw_p13, List.forall_mem_cons.mpr ⟨lw_p14, List.forall_mem_cons.mpr ⟨lw_p15, fun _ h => absurd h List.not_mem_nil⟩⟩⟩⟩⟩⟩⟩⟩⟩⟩⟩⟩⟩⟩⟩⟩
theorem lw_p16 : lw_okq (⟨"SlantOaths$Table", "tremblingSheets", "()I"⟩, 8) := ⟨⟨by decide +kernel, by decide +kernel⟩, List.mem_of_getElem? (i := 83) (by decide +kernel), List.mem_of_getElem? (i := 381) (by decide +kernel), List.mem_of_getElem? (i := 382) (by decide +kernel)⟩
theorem lw_p17 : lw_okq (⟨"SlantOaths$Table", "trembles", "(I)Z"⟩, 8) := ⟨⟨by decide +kernel, by decide +kernel⟩, List.mem_of_getElem? (i := 83) (by decide +kernel), List.mem_of_getElem? (i := 385) (by decide +kernel), List.mem_of_getElem? (i := 386) (by decide +kernel)⟩
theorem lw_p18 : lw_okq (⟨"SlantOaths$Sheet", "numberOf", "(II)I"⟩, 3) := ⟨⟨by decide +kernel, by decide +kernel⟩, List.mem_of_getElem? (i := 89) (by decide +kernel), List.mem_of_getElem? (i := 393) (by decide +kernel), List.mem_of_getElem? (i := 394) (by decide +kernel)⟩
theorem lw_p19 : lw_okq (⟨"SlantOaths$Table", "likePairs", "()I"⟩, 8) := ⟨⟨by decide +kernel, by decide +kernel⟩, List.mem_of_getElem? (i := 83) (by decide +kernel), List.mem_of_getElem? (i := 398) (by decide +kernel), List.mem_of_getElem? (i := 399) (by decide +kernel)⟩
theorem lw_p20 : lw_okq (⟨"SlantOaths", "mixSheet", "(JI)J"⟩, 5) := ⟨⟨by decide +kernel, by decide +kernel⟩, List.mem_of_getElem? (i := 19) (by decide +kernel), List.mem_of_getElem? (i := 406) (by decide +kernel), List.mem_of_getElem? (i := 407) (by decide +kernel)⟩
theorem lw_p21 : lw_okq (⟨"SlantOaths$Oaths", "isOf", "(II)Z"⟩, 6) := ⟨⟨by decide +kernel, by decide +kernel⟩, List.mem_of_getElem? (i := 116) (by decide +kernel), List.mem_of_getElem? (i := 418) (by decide +kernel), List.mem_of_getElem? (i := 419) (by decide +kernel)⟩
theorem lw_p22 : lw_okq (⟨"SlantOaths", "mixPair", "(JII)J"⟩, 5) := ⟨⟨by decide +kernel, by decide +kernel⟩, List.mem_of_getElem? (i := 19) (by decide +kernel), List.mem_of_getElem? (i := 440) (by decide +kernel), List.mem_of_getElem? (i := 441) (by decide +kernel)⟩
theorem lw_p23 : lw_okq (⟨"SlantOaths$Oaths", "isInHands", "(III)Z"⟩, 6) := ⟨⟨by decide +kernel, by decide +kernel⟩, List.mem_of_getElem? (i := 116) (by decide +kernel), List.mem_of_getElem? (i := 469) (by decide +kernel), List.mem_of_getElem? (i := 470) (by decide +kernel)⟩
theorem lw_p24 : lw_okq (⟨"SlantOaths$Oaths", "holdsTogether", "(I)Z"⟩, 6) := ⟨⟨by decide +kernel, by decide +kernel⟩, List.mem_of_getElem? (i := 116) (by decide +kernel), List.mem_of_getElem? (i := 477) (by decide +kernel), List.mem_of_getElem? (i := 478) (by decide +kernel)⟩
theorem lw_p25 : lw_okq (⟨"java/lang/Throwable", "fillInStackTrace", "(I)Ljava/lang/Throwable;"⟩, 6) := ⟨⟨by decide +kernel, by decide +kernel⟩, List.mem_of_getElem? (i := 540) (by decide +kernel), List.mem_of_getElem? (i := 538) (by decide +kernel), List.mem_of_getElem? (i := 539) (by decide +kernel)⟩
theorem lw_p26 : lw_okq (⟨"SlantOaths$History", "newestSlot", "()LSlantOaths$Table;"⟩, 3) := ⟨⟨by decide +kernel, by decide +kernel⟩, List.mem_of_getElem? (i := 198) (by decide +kernel), List.mem_of_getElem? (i := 590) (by decide +kernel), List.mem_of_getElem? (i := 591) (by decide +kernel)⟩
theorem lw_p27 : lw_okq (⟨"SlantOaths$Sheet", "slantRange", "()I"⟩, 3) := ⟨⟨by decide +kernel, by decide +kernel⟩, List.mem_of_getElem? (i := 89) (by decide +kernel), List.mem_of_getElem? (i := 609) (by decide +kernel), List.mem_of_getElem? (i := 610) (by decide +kernel)⟩
theorem lw_p28 : lw_okq (⟨"SlantOaths$Sheet", "loopHeights", "()I"⟩, 3) := ⟨⟨by decide +kernel, by decide +kernel⟩, List.mem_of_getElem? (i := 89) (by decide +kernel), List.mem_of_getElem? (i := 615) (by decide +kernel), List.mem_of_getElem? (i := 616) (by decide +kernel)⟩
theorem lw_p29 : lw_okq (⟨"SlantOaths$Sheet", "pressureSteps", "()I"⟩, 3) := ⟨⟨by decide +kernel, by decide +kernel⟩, List.mem_of_getElem? (i := 89) (by decide +kernel), List.mem_of_getElem? (i := 619) (by decide +kernel), List.mem_of_getElem? (i := 620) (by decide +kernel)⟩
theorem lw_p30 : lw_okq (⟨"SlantOaths", "isThere", "(I)Z"⟩, 5) := ⟨⟨by decide +kernel, by decide +kernel⟩, List.mem_of_getElem? (i := 19) (by decide +kernel), List.mem_of_getElem? (i := 636) (by decide +kernel), List.mem_of_getElem? (i := 637) (by decide +kernel)⟩
theorem lw_p31 : lw_okq (⟨"SlantOaths$Oaths", "takeOut", "(I)V"⟩, 6) := ⟨⟨by decide +kernel, by decide +kernel⟩, List.mem_of_getElem? (i := 116) (by decide +kernel), List.mem_of_getElem? (i := 668) (by decide +kernel), List.mem_of_getElem? (i := 669) (by decide +kernel)⟩
def lw_privs_2 : List (MethodName × Nat) := [(⟨"SlantOaths$Table", "tremblingSheets", "()I"⟩, 8), (⟨"SlantOaths$Table", "trembles", "(I)Z"⟩, 8), (⟨"SlantOaths$Sheet", "numberOf", "(II)I"⟩, 3), (⟨"SlantOaths$Table", "likePairs", "()I"⟩, 8), (⟨"SlantOaths", "mixSheet", "(JI)J"⟩, 5), (⟨"SlantOaths$Oaths", "isOf", "(II)Z"⟩, 6), (⟨"SlantOaths", "mixPair", "(JII)J"⟩, 5), (⟨"SlantOaths$Oaths", "isInHands", "(III)Z"⟩, 6), (⟨"SlantOaths$Oaths", "holdsTogether", "(I)Z"⟩, 6), (⟨"java/lang/Throwable", "fillInStackTrace", "(I)Ljava/lang/Throwable;"⟩, 6), (⟨"SlantOaths$History", "newestSlot", "()LSlantOaths$Table;"⟩, 3), (⟨"SlantOaths$Sheet", "slantRange", "()I"⟩, 3), (⟨"SlantOaths$Sheet", "loopHeights", "()I"⟩, 3), (⟨"SlantOaths$Sheet", "pressureSteps", "()I"⟩, 3), (⟨"SlantOaths", "isThere", "(I)Z"⟩, 5), (⟨"SlantOaths$Oaths", "takeOut", "(I)V"⟩, 6)]
theorem lw_r2 : ∀ q ∈ lw_privs_2, lw_okq q := List.forall_mem_cons.mpr ⟨lw_p16, List.forall_mem_cons.mpr ⟨lw_p17, List.forall_mem_cons.mpr ⟨lw_p18, List.forall_mem_cons.mpr ⟨lw_p19, List.forall_mem_cons.mpr ⟨lw_p20, List.forall_mem_cons.mpr ⟨lw_p21, List.forall_mem_cons.mpr ⟨lw_p22, List.forall_mem_cons.mpr ⟨lw_p23, List.forall_mem_cons.mpr ⟨lw_p24, List.forall_mem_cons.mpr ⟨lw_p25, List.forall_mem_cons.mpr ⟨lw_p26, List.forall_mem_cons.mpr ⟨lw_p27, List.forall_mem_cons.mpr ⟨lw_p28, List.forall_mem_cons.mpr ⟨lw_p29, List.forall_mem_cons.mpr ⟨lw_p30, List.forall_mem_cons.mpr ⟨lw_p31, fun _ h => absurd h List.not_mem_nil⟩⟩⟩⟩⟩⟩⟩⟩⟩⟩⟩⟩⟩⟩⟩⟩
theorem lw_p32 : lw_okq (⟨"SlantOaths", "areThere", "(II)Z"⟩, 5) := ⟨⟨by decide +kernel, by decide +kernel⟩, List.mem_of_getElem? (i := 19) (by decide +kernel), List.mem_of_getElem? (i := 708) (by decide +kernel), List.mem_of_getElem? (i := 709) (by decide +kernel)⟩
theorem lw_p33 : lw_okq (⟨"SlantOaths", "doPart", "(I)Z"⟩, 5) := ⟨⟨by decide +kernel, by decide +kernel⟩, List.mem_of_getElem? (i := 19) (by decide +kernel), List.mem_of_getElem? (i := 755) (by decide +kernel), List.mem_of_getElem? (i := 756) (by decide +kernel)⟩
theorem lw_p34 : lw_okq (⟨"SlantOaths", "swearPart", "(IIZ)I"⟩, 5) := ⟨⟨by decide +kernel, by decide +kernel⟩, List.mem_of_getElem? (i := 19) (by decide +kernel), List.mem_of_getElem? (i := 759) (by decide +kernel), List.mem_of_getElem? (i := 760) (by decide +kernel)⟩
theorem lw_p35 : lw_okq (⟨"SlantOathsModel", "fails", "(I)I"⟩, 17) := ⟨⟨by decide +kernel, by decide +kernel⟩, List.mem_of_getElem? (i := 874) (by decide +kernel), List.mem_of_getElem? (i := 940) (by decide +kernel), List.mem_of_getElem? (i := 941) (by decide +kernel)⟩
theorem lw_p36 : lw_okq (⟨"SlantOathsModel", "save", "()V"⟩, 17) := ⟨⟨by decide +kernel, by decide +kernel⟩, List.mem_of_getElem? (i := 874) (by decide +kernel), List.mem_of_getElem? (i := 952) (by decide +kernel), List.mem_of_getElem? (i := 953) (by decide +kernel)⟩
theorem lw_p37 : lw_okq (⟨"SlantOathsModel", "isSheetText", "()Z"⟩, 17) := ⟨⟨by decide +kernel, by decide +kernel⟩, List.mem_of_getElem? (i := 874) (by decide +kernel), List.mem_of_getElem? (i := 960) (by decide +kernel), List.mem_of_getElem? (i := 961) (by decide +kernel)⟩
theorem lw_p38 : lw_okq (⟨"SlantOathsModel", "findSheetError", "()I"⟩, 17) := ⟨⟨by decide +kernel, by decide +kernel⟩, List.mem_of_getElem? (i := 874) (by decide +kernel), List.mem_of_getElem? (i := 964) (by decide +kernel), List.mem_of_getElem? (i := 965) (by decide +kernel)⟩
theorem lw_p39 : lw_okq (⟨"SlantOathsModel", "readsStroke", "()Z"⟩, 17) := ⟨⟨by decide +kernel, by decide +kernel⟩, List.mem_of_getElem? (i := 874) (by decide +kernel), List.mem_of_getElem? (i := 968) (by decide +kernel), List.mem_of_getElem? (i := 969) (by decide +kernel)⟩
theorem lw_p40 : lw_okq (⟨"SlantOathsModel", "takes", "(I)Z"⟩, 17) := ⟨⟨by decide +kernel, by decide +kernel⟩, List.mem_of_getElem? (i := 874) (by decide +kernel), List.mem_of_getElem? (i := 972) (by decide +kernel), List.mem_of_getElem? (i := 973) (by decide +kernel)⟩
theorem lw_p41 : lw_okq (⟨"SlantOathsModel", "next", "()I"⟩, 17) := ⟨⟨by decide +kernel, by decide +kernel⟩, List.mem_of_getElem? (i := 874) (by decide +kernel), List.mem_of_getElem? (i := 976) (by decide +kernel), List.mem_of_getElem? (i := 977) (by decide +kernel)⟩
theorem lw_p42 : lw_okq (⟨"SlantOathsModel", "readNumber", "(II)I"⟩, 17) := ⟨⟨by decide +kernel, by decide +kernel⟩, List.mem_of_getElem? (i := 874) (by decide +kernel), List.mem_of_getElem? (i := 980) (by decide +kernel), List.mem_of_getElem? (i := 981) (by decide +kernel)⟩
theorem lw_p43 : lw_okq (⟨"SlantOathsModel", "isSheet", "(I)Z"⟩, 17) := ⟨⟨by decide +kernel, by decide +kernel⟩, List.mem_of_getElem? (i := 874) (by decide +kernel), List.mem_of_getElem? (i := 991) (by decide +kernel), List.mem_of_getElem? (i := 992) (by decide +kernel)⟩
theorem lw_p44 : lw_okq (⟨"SlantOathsModel", "drops", "(I)I"⟩, 17) := ⟨⟨by decide +kernel, by decide +kernel⟩, List.mem_of_getElem? (i := 874) (by decide +kernel), List.mem_of_getElem? (i := 995) (by decide +kernel), List.mem_of_getElem? (i := 996) (by decide +kernel)⟩
theorem lw_p45 : lw_okq (⟨"SlantOathsModel", "ofOath", "(II)I"⟩, 17) := ⟨⟨by decide +kernel, by decide +kernel⟩, List.mem_of_getElem? (i := 874) (by decide +kernel), List.mem_of_getElem? (i := 999) (by decide +kernel), List.mem_of_getElem? (i := 1000) (by decide +kernel)⟩
theorem lw_p46 : lw_okq (⟨"SlantOathsModel", "dropOath", "(I)V"⟩, 17) := ⟨⟨by decide +kernel, by decide +kernel⟩, List.mem_of_getElem? (i := 874) (by decide +kernel), List.mem_of_getElem? (i := 1003) (by decide +kernel), List.mem_of_getElem? (i := 1004) (by decide +kernel)⟩
theorem lw_p47 : lw_okq (⟨"SlantOathsModel", "passes", "(I)I"⟩, 17) := ⟨⟨by decide +kernel, by decide +kernel⟩, List.mem_of_getElem? (i := 874) (by decide +kernel), List.mem_of_getElem? (i := 1011) (by decide +kernel), List.mem_of_getElem? (i := 1012) (by decide +kernel)⟩
def lw_privs_3 : List (MethodName × Nat) := [(⟨"SlantOaths", "areThere", "(II)Z"⟩, 5), (⟨"SlantOaths", "doPart", "(I)Z"⟩, 5), (⟨"SlantOaths", "swearPart", "(IIZ)I"⟩, 5), (⟨"SlantOathsModel", "fails", "(I)I"⟩, 17), (⟨"SlantOathsModel", "save", "()V"⟩, 17), (⟨"SlantOathsModel", "isSheetText", "()Z"⟩, 17), (⟨"SlantOathsModel", "findSheetError", "()I"⟩, 17), (⟨"SlantOathsModel", "readsStroke", "()Z"⟩, 17), (⟨"SlantOathsModel", "takes", "(I)Z"⟩, 17), (⟨"SlantOathsModel", "next", "()I"⟩, 17), (⟨"SlantOathsModel", "readNumber", "(II)I"⟩, 17), (⟨"SlantOathsModel", "isSheet", "(I)Z"⟩, 17), (⟨"SlantOathsModel", "drops", "(I)I"⟩, 17), (⟨"SlantOathsModel", "ofOath", "(II)I"⟩, 17), (⟨"SlantOathsModel", "dropOath", "(I)V"⟩, 17), (⟨"SlantOathsModel", "passes", "(I)I"⟩, 17)]
theorem lw_r3 : ∀ q ∈ lw_privs_3, lw_okq q := List.forall_mem_cons.mpr ⟨lw_p32, List.forall_mem_cons.mpr ⟨lw_p33, List.forall_mem_cons.mpr ⟨lw_p34, List.forall_mem_cons.mpr ⟨lw_p35, List.forall_mem_cons.mpr ⟨lw_p36, List.forall_mem_cons.mpr ⟨lw_p37, List.forall_mem_cons.mpr ⟨lw_p38, List.forall_mem_cons.mpr ⟨lw_p39, List.forall_mem_cons.mpr ⟨lw_p40, List.forall_mem_cons.mpr ⟨lw_p41, List.forall_mem_cons.mpr ⟨lw_p42, List.forall_mem_cons.mpr ⟨lw_p43, List.forall_mem_cons.mpr ⟨lw_p44, List.forall_mem_cons.mpr ⟨lw_p45, List.forall_mem_cons.mpr ⟨lw_p46, List.forall_mem_cons.mpr ⟨lw_p47, fun _ h => absurd h List.not_mem_nil⟩⟩⟩⟩⟩⟩⟩⟩⟩⟩⟩⟩⟩⟩⟩⟩
theorem lw_p48 : lw_okq (⟨"SlantOathsModel", "of", "(II)I"⟩, 17) := ⟨⟨by decide +kernel, by decide +kernel⟩, List.mem_of_getElem? (i := 874) (by decide +kernel), List.mem_of_getElem? (i := 1015) (by decide +kernel), List.mem_of_getElem? (i := 1016) (by decide +kernel)⟩
theorem lw_p49 : lw_okq (⟨"SlantOathsModel", "whyNotSworn", "(IIZ)I"⟩, 17) := ⟨⟨by decide +kernel, by decide +kernel⟩, List.mem_of_getElem? (i := 874) (by decide +kernel), List.mem_of_getElem? (i := 1030) (by decide +kernel), List.mem_of_getElem? (i := 1031) (by decide +kernel)⟩
theorem lw_p50 : lw_okq (⟨"SlantOathsModel", "findOath", "(II)I"⟩, 17) := ⟨⟨by decide +kernel, by decide +kernel⟩, List.mem_of_getElem? (i := 874) (by decide +kernel), List.mem_of_getElem? (i := 1034) (by decide +kernel), List.mem_of_getElem? (i := 1035) (by decide +kernel)⟩
theorem lw_p51 : lw_okq (⟨"SlantOathsModel", "areOfOne", "(II)Z"⟩, 17) := ⟨⟨by decide +kernel, by decide +kernel⟩, List.mem_of_getElem? (i := 874) (by decide +kernel), List.mem_of_getElem? (i := 1038) (by decide +kernel), List.mem_of_getElem? (i := 1039) (by decide +kernel)⟩
theorem lw_p52 : lw_okq (⟨"SlantOathsModel", "layHands", "(I)V"⟩, 17) := ⟨⟨by decide +kernel, by decide +kernel⟩, List.mem_of_getElem? (i := 874) (by decide +kernel), List.mem_of_getElem? (i := 1042) (by decide +kernel), List.mem_of_getElem? (i := 1043) (by decide +kernel)⟩
theorem lw_p53 : lw_okq (⟨"SlantOathsModel", "join", "(II)V"⟩, 17) := ⟨⟨by decide +kernel, by decide +kernel⟩, List.mem_of_getElem? (i := 874) (by decide +kernel), List.mem_of_getElem? (i := 1046) (by decide +kernel), List.mem_of_getElem? (i := 1047) (by decide +kernel)⟩
theorem lw_p54 : lw_okq (⟨"SlantOathsModel", "trembles", "(I)Z"⟩, 17) := ⟨⟨by decide +kernel, by decide +kernel⟩, List.mem_of_getElem? (i := 874) (by decide +kernel), List.mem_of_getElem? (i := 1050) (by decide +kernel), List.mem_of_getElem? (i := 1051) (by decide +kernel)⟩
theorem lw_p55 : lw_okq (⟨"SlantOathsModel", "sumOf", "(II)I"⟩, 17) := ⟨⟨by decide +kernel, by decide +kernel⟩, List.mem_of_getElem? (i := 874) (by decide +kernel), List.mem_of_getElem? (i := 1054) (by decide +kernel), List.mem_of_getElem? (i := 1055) (by decide +kernel)⟩
theorem lw_p56 : lw_okq (⟨"SlantOathsModel", "ofStroke", "(III)I"⟩, 17) := ⟨⟨by decide +kernel, by decide +kernel⟩, List.mem_of_getElem? (i := 874) (by decide +kernel), List.mem_of_getElem? (i := 1058) (by decide +kernel), List.mem_of_getElem? (i := 1059) (by decide +kernel)⟩
theorem lw_p57 : lw_okq (⟨"SlantOathsModel", "likeness", "(II)I"⟩, 17) := ⟨⟨by decide +kernel, by decide +kernel⟩, List.mem_of_getElem? (i := 874) (by decide +kernel), List.mem_of_getElem? (i := 1062) (by decide +kernel), List.mem_of_getElem? (i := 1063) (by decide +kernel)⟩
theorem lw_p58 : lw_okq (⟨"SlantOathsModel", "agreeing", "(II)I"⟩, 17) := ⟨⟨by decide +kernel, by decide +kernel⟩, List.mem_of_getElem? (i := 874) (by decide +kernel), List.mem_of_getElem? (i := 1066) (by decide +kernel), List.mem_of_getElem? (i := 1067) (by decide +kernel)⟩
theorem lw_p59 : lw_okq (⟨"SlantOathsModel", "isGone", "(III)Z"⟩, 17) := ⟨⟨by decide +kernel, by decide +kernel⟩, List.mem_of_getElem? (i := 874) (by decide +kernel), List.mem_of_getElem? (i := 1070) (by decide +kernel), List.mem_of_getElem? (i := 1071) (by decide +kernel)⟩
theorem lw_p60 : lw_okq (⟨"SlantOathsModel", "hasFaded", "(I)Z"⟩, 17) := ⟨⟨by decide +kernel, by decide +kernel⟩, List.mem_of_getElem? (i := 874) (by decide +kernel), List.mem_of_getElem? (i := 1074) (by decide +kernel), List.mem_of_getElem? (i := 1075) (by decide +kernel)⟩
theorem lw_p61 : lw_okq (⟨"SlantOathsModel", "differ", "(III)I"⟩, 17) := ⟨⟨by decide +kernel, by decide +kernel⟩, List.mem_of_getElem? (i := 874) (by decide +kernel), List.mem_of_getElem? (i := 1078) (by decide +kernel), List.mem_of_getElem? (i := 1079) (by decide +kernel)⟩
theorem lw_p62 : lw_okq (⟨"SlantOathsModel", "markOf", "(II)I"⟩, 17) := ⟨⟨by decide +kernel, by decide +kernel⟩, List.mem_of_getElem? (i := 874) (by decide +kernel), List.mem_of_getElem? (i := 1082) (by decide +kernel), List.mem_of_getElem? (i := 1083) (by decide +kernel)⟩
theorem lw_p63 : lw_okq (⟨"SlantOathsModel", "spread", "(I)I"⟩, 17) := ⟨⟨by decide +kernel, by decide +kernel⟩, List.mem_of_getElem? (i := 874) (by decide +kernel), List.mem_of_getElem? (i := 1089) (by decide +kernel), List.mem_of_getElem? (i := 1090) (by decide +kernel)⟩
def lw_privs_4 : List (MethodName × Nat) := [(⟨"SlantOathsModel", "of", "(II)I"⟩, 17), (⟨"SlantOathsModel", "whyNotSworn", "(IIZ)I"⟩, 17), (⟨"SlantOathsModel", "findOath", "(II)I"⟩, 17), (⟨"SlantOathsModel", "areOfOne", "(II)Z"⟩, 17), (⟨"SlantOathsModel", "layHands", "(I)V"⟩, 17), (⟨"SlantOathsModel", "join", "(II)V"⟩, 17), (⟨"SlantOathsModel", "trembles", "(I)Z"⟩, 17), (⟨"SlantOathsModel", "sumOf", "(II)I"⟩, 17), (⟨"SlantOathsModel", "ofStroke", "(III)I"⟩, 17), (⟨"SlantOathsModel", "likeness", "(II)I"⟩, 17), (⟨"SlantOathsModel", "agreeing", "(II)I"⟩, 17), (⟨"SlantOathsModel", "isGone", "(III)Z"⟩, 17), (⟨"SlantOathsModel", "hasFaded", "(I)Z"⟩, 17), (⟨"SlantOathsModel", "differ", "(III)I"⟩, 17), (⟨"SlantOathsModel", "markOf", "(II)I"⟩, 17), (⟨"SlantOathsModel", "spread", "(I)I"⟩, 17)]
theorem lw_r4 : ∀ q ∈ lw_privs_4, lw_okq q := List.forall_mem_cons.mpr ⟨lw_p48, List.forall_mem_cons.mpr ⟨lw_p49, List.forall_mem_cons.mpr ⟨lw_p50, List.forall_mem_cons.mpr ⟨lw_p51, List.forall_mem_cons.mpr ⟨lw_p52, List.forall_mem_cons.mpr ⟨lw_p53, List.forall_mem_cons.mpr ⟨lw_p54, List.forall_mem_cons.mpr ⟨lw_p55, List.forall_mem_cons.mpr ⟨lw_p56, List.forall_mem_cons.mpr ⟨lw_p57, List.forall_mem_cons.mpr ⟨lw_p58, List.forall_mem_cons.mpr ⟨lw_p59, List.forall_mem_cons.mpr ⟨lw_p60, List.forall_mem_cons.mpr ⟨lw_p61, List.forall_mem_cons.mpr ⟨lw_p62, List.forall_mem_cons.mpr ⟨lw_p63, fun _ h => absurd h List.not_mem_nil⟩⟩⟩⟩⟩⟩⟩⟩⟩⟩⟩⟩⟩⟩⟩⟩
theorem lw_p64 : lw_okq (⟨"SlantOathsModel", "loopHeight", "(I)I"⟩, 17) := ⟨⟨by decide +kernel, by decide +kernel⟩, List.mem_of_getElem? (i := 874) (by decide +kernel), List.mem_of_getElem? (i := 1093) (by decide +kernel), List.mem_of_getElem? (i := 1094) (by decide +kernel)⟩
theorem lw_p65 : lw_okq (⟨"SlantOathsModel", "unrest", "(I)I"⟩, 17) := ⟨⟨by decide +kernel, by decide +kernel⟩, List.mem_of_getElem? (i := 874) (by decide +kernel), List.mem_of_getElem? (i := 1097) (by decide +kernel), List.mem_of_getElem? (i := 1098) (by decide +kernel)⟩
theorem lw_p66 : lw_okq (⟨"SlantOathsModel", "breaks", "(II)Z"⟩, 17) := ⟨⟨by decide +kernel, by decide +kernel⟩, List.mem_of_getElem? (i := 874) (by decide +kernel), List.mem_of_getElem? (i := 1107) (by decide +kernel), List.mem_of_getElem? (i := 1108) (by decide +kernel)⟩
theorem lw_p67 : lw_okq (⟨"SlantOathsModel", "swears", "(IIZ)I"⟩, 17) := ⟨⟨by decide +kernel, by decide +kernel⟩, List.mem_of_getElem? (i := 874) (by decide +kernel), List.mem_of_getElem? (i := 1111) (by decide +kernel), List.mem_of_getElem? (i := 1112) (by decide +kernel)⟩
theorem lw_p68 : lw_okq (⟨"SlantOathsModel", "hands", "()I"⟩, 17) := ⟨⟨by decide +kernel, by decide +kernel⟩, List.mem_of_getElem? (i := 874) (by decide +kernel), List.mem_of_getElem? (i := 1115) (by decide +kernel), List.mem_of_getElem? (i := 1116) (by decide +kernel)⟩
theorem lw_p69 : lw_okq (⟨"SlantOathsModel", "findWorksError", "()I"⟩, 17) := ⟨⟨by decide +kernel, by decide +kernel⟩, List.mem_of_getElem? (i := 874) (by decide +kernel), List.mem_of_getElem? (i := 1135) (by decide +kernel), List.mem_of_getElem? (i := 1136) (by decide +kernel)⟩
theorem lw_p70 : lw_okq (⟨"SlantOathsModel", "readsPart", "()Z"⟩, 17) := ⟨⟨by decide +kernel, by decide +kernel⟩, List.mem_of_getElem? (i := 874) (by decide +kernel), List.mem_of_getElem? (i := 1139) (by decide +kernel), List.mem_of_getElem? (i := 1140) (by decide +kernel)⟩
theorem lw_p71 : lw_okq (⟨"SlantOathsModel", "whyNotPart", "()I"⟩, 17) := ⟨⟨by decide +kernel, by decide +kernel⟩, List.mem_of_getElem? (i := 874) (by decide +kernel), List.mem_of_getElem? (i := 1147) (by decide +kernel), List.mem_of_getElem? (i := 1148) (by decide +kernel)⟩
theorem lw_p72 : lw_okq (⟨"SlantOathsModel", "doPart", "()V"⟩, 17) := ⟨⟨by decide +kernel, by decide +kernel⟩, List.mem_of_getElem? (i := 874) (by decide +kernel), List.mem_of_getElem? (i := 1151) (by decide +kernel), List.mem_of_getElem? (i := 1152) (by decide +kernel)⟩
theorem lw_p73 : lw_okq (⟨"SlantOathsModel", "tellsSheet", "(II)I"⟩, 17) := ⟨⟨by decide +kernel, by decide +kernel⟩, List.mem_of_getElem? (i := 874) (by decide +kernel), List.mem_of_getElem? (i := 1163) (by decide +kernel), List.mem_of_getElem? (i := 1164) (by decide +kernel)⟩
theorem lw_p74 : lw_okq (⟨"SlantOathsModel", "handOf", "(I)I"⟩, 17) := ⟨⟨by decide +kernel, by decide +kernel⟩, List.mem_of_getElem? (i := 874) (by decide +kernel), List.mem_of_getElem? (i := 1167) (by decide +kernel), List.mem_of_getElem? (i := 1168) (by decide +kernel)⟩
theorem lw_p75 : lw_okq (⟨"SlantOathsModel", "oathsOf", "(I)I"⟩, 17) := ⟨⟨by decide +kernel, by decide +kernel⟩, List.mem_of_getElem? (i := 874) (by decide +kernel), List.mem_of_getElem? (i := 1171) (by decide +kernel), List.mem_of_getElem? (i := 1172) (by decide +kernel)⟩
theorem lw_p76 : lw_okq (⟨"SlantOathsModel", "tellsStroke", "(III)I"⟩, 17) := ⟨⟨by decide +kernel, by decide +kernel⟩, List.mem_of_getElem? (i := 874) (by decide +kernel), List.mem_of_getElem? (i := 1179) (by decide +kernel), List.mem_of_getElem? (i := 1180) (by decide +kernel)⟩
theorem lw_p77 : lw_okq (⟨"SlantOathsModel", "compares", "(III)I"⟩, 17) := ⟨⟨by decide +kernel, by decide +kernel⟩, List.mem_of_getElem? (i := 874) (by decide +kernel), List.mem_of_getElem? (i := 1191) (by decide +kernel), List.mem_of_getElem? (i := 1192) (by decide +kernel)⟩
theorem lw_p78 : lw_okq (⟨"SlantOathsModel", "tellsOathOf", "(II)I"⟩, 17) := ⟨⟨by decide +kernel, by decide +kernel⟩, List.mem_of_getElem? (i := 874) (by decide +kernel), List.mem_of_getElem? (i := 1195) (by decide +kernel), List.mem_of_getElem? (i := 1196) (by decide +kernel)⟩
theorem lw_p79 : lw_okq (⟨"SlantOathsModel", "tellsOath", "(II)I"⟩, 17) := ⟨⟨by decide +kernel, by decide +kernel⟩, List.mem_of_getElem? (i := 874) (by decide +kernel), List.mem_of_getElem? (i := 1203) (by decide +kernel), List.mem_of_getElem? (i := 1204) (by decide +kernel)⟩
def lw_privs_5 : List (MethodName × Nat) := [(⟨"SlantOathsModel", "loopHeight", "(I)I"⟩, 17), (⟨"SlantOathsModel", "unrest", "(I)I"⟩, 17), (⟨"SlantOathsModel", "breaks", "(II)Z"⟩, 17), (⟨"SlantOathsModel", "swears", "(IIZ)I"⟩, 17), (⟨"SlantOathsModel", "hands", "()I"⟩, 17), (⟨"SlantOathsModel", "findWorksError", "()I"⟩, 17), (⟨"SlantOathsModel", "readsPart", "()Z"⟩, 17), (⟨"SlantOathsModel", "whyNotPart", "()I"⟩, 17), (⟨"SlantOathsModel", "doPart", "()V"⟩, 17), (⟨"SlantOathsModel", "tellsSheet", "(II)I"⟩, 17), (⟨"SlantOathsModel", "handOf", "(I)I"⟩, 17), (⟨"SlantOathsModel", "oathsOf", "(I)I"⟩, 17), (⟨"SlantOathsModel", "tellsStroke", "(III)I"⟩, 17), (⟨"SlantOathsModel", "compares", "(III)I"⟩, 17), (⟨"SlantOathsModel", "tellsOathOf", "(II)I"⟩, 17), (⟨"SlantOathsModel", "tellsOath", "(II)I"⟩, 17)]
theorem lw_r5 : ∀ q ∈ lw_privs_5, lw_okq q := List.forall_mem_cons.mpr ⟨lw_p64, List.forall_mem_cons.mpr ⟨lw_p65, List.forall_mem_cons.mpr ⟨lw_p66, List.forall_mem_cons.mpr ⟨lw_p67, List.forall_mem_cons.mpr ⟨lw_p68, List.forall_mem_cons.mpr ⟨lw_p69, List.forall_mem_cons.mpr ⟨lw_p70, List.forall_mem_cons.mpr ⟨lw_p71, List.forall_mem_cons.mpr ⟨lw_p72, List.forall_mem_cons.mpr ⟨lw_p73, List.forall_mem_cons.mpr ⟨lw_p74, List.forall_mem_cons.mpr ⟨lw_p75, List.forall_mem_cons.mpr ⟨lw_p76, List.forall_mem_cons.mpr ⟨lw_p77, List.forall_mem_cons.mpr ⟨lw_p78, List.forall_mem_cons.mpr ⟨lw_p79, fun _ h => absurd h List.not_mem_nil⟩⟩⟩⟩⟩⟩⟩⟩⟩⟩⟩⟩⟩⟩⟩⟩
theorem lw_p80 : lw_okq (⟨"SlantOathsModel", "holds", "(I)Z"⟩, 17) := ⟨⟨by decide +kernel, by decide +kernel⟩, List.mem_of_getElem? (i := 874) (by decide +kernel), List.mem_of_getElem? (i := 1207) (by decide +kernel), List.mem_of_getElem? (i := 1208) (by decide +kernel)⟩
theorem lw_p81 : lw_okq (⟨"SlantOathsModel", "tellsCount", "(I)I"⟩, 17) := ⟨⟨by decide +kernel, by decide +kernel⟩, List.mem_of_getElem? (i := 874) (by decide +kernel), List.mem_of_getElem? (i := 1215) (by decide +kernel), List.mem_of_getElem? (i := 1216) (by decide +kernel)⟩
theorem lw_p82 : lw_okq (⟨"SlantOathsModel", "likeOaths", "()I"⟩, 17) := ⟨⟨by decide +kernel, by decide +kernel⟩, List.mem_of_getElem? (i := 874) (by decide +kernel), List.mem_of_getElem? (i := 1219) (by decide +kernel), List.mem_of_getElem? (i := 1220) (by decide +kernel)⟩
theorem lw_p83 : lw_okq (⟨"SlantOathsModel", "mostOfHand", "()I"⟩, 17) := ⟨⟨by decide +kernel, by decide +kernel⟩, List.mem_of_getElem? (i := 874) (by decide +kernel), List.mem_of_getElem? (i := 1223) (by decide +kernel), List.mem_of_getElem? (i := 1224) (by decide +kernel)⟩
theorem lw_p84 : lw_okq (⟨"SlantOathsModel", "trembling", "()I"⟩, 17) := ⟨⟨by decide +kernel, by decide +kernel⟩, List.mem_of_getElem? (i := 874) (by decide +kernel), List.mem_of_getElem? (i := 1227) (by decide +kernel), List.mem_of_getElem? (i := 1228) (by decide +kernel)⟩
theorem lw_p85 : lw_okq (⟨"SlantOathsModel", "likePairs", "()I"⟩, 17) := ⟨⟨by decide +kernel, by decide +kernel⟩, List.mem_of_getElem? (i := 874) (by decide +kernel), List.mem_of_getElem? (i := 1231) (by decide +kernel), List.mem_of_getElem? (i := 1232) (by decide +kernel)⟩
theorem lw_p86 : lw_okq (⟨"SlantOathsModel", "mostAlike", "(I)I"⟩, 17) := ⟨⟨by decide +kernel, by decide +kernel⟩, List.mem_of_getElem? (i := 874) (by decide +kernel), List.mem_of_getElem? (i := 1243) (by decide +kernel), List.mem_of_getElem? (i := 1244) (by decide +kernel)⟩
theorem lw_p87 : lw_okq (⟨"SlantOathsModel", "tolerance", "(III)I"⟩, 17) := ⟨⟨by decide +kernel, by decide +kernel⟩, List.mem_of_getElem? (i := 874) (by decide +kernel), List.mem_of_getElem? (i := 1251) (by decide +kernel), List.mem_of_getElem? (i := 1252) (by decide +kernel)⟩
theorem lw_p88 : lw_okq (⟨"SlantOathsModel", "wouldPass", "(III)I"⟩, 17) := ⟨⟨by decide +kernel, by decide +kernel⟩, List.mem_of_getElem? (i := 874) (by decide +kernel), List.mem_of_getElem? (i := 1259) (by decide +kernel), List.mem_of_getElem? (i := 1260) (by decide +kernel)⟩
theorem lw_p89 : lw_okq (⟨"SlantOathsModel", "putAside", "()V"⟩, 17) := ⟨⟨by decide +kernel, by decide +kernel⟩, List.mem_of_getElem? (i := 874) (by decide +kernel), List.mem_of_getElem? (i := 1263) (by decide +kernel), List.mem_of_getElem? (i := 1264) (by decide +kernel)⟩
theorem lw_p90 : lw_okq (⟨"SlantOathsModel", "takeBack", "()V"⟩, 17) := ⟨⟨by decide +kernel, by decide +kernel⟩, List.mem_of_getElem? (i := 874) (by decide +kernel), List.mem_of_getElem? (i := 1267) (by decide +kernel), List.mem_of_getElem? (i := 1268) (by decide +kernel)⟩
theorem lw_p91 : lw_okq (⟨"SlantOathsModel", "share", "()D"⟩, 17) := ⟨⟨by decide +kernel, by decide +kernel⟩, List.mem_of_getElem? (i := 874) (by decide +kernel), List.mem_of_getElem? (i := 1275) (by decide +kernel), List.mem_of_getElem? (i := 1276) (by decide +kernel)⟩
theorem lw_p92 : lw_okq (⟨"SlantOathsModel", "mix", "(J)V"⟩, 17) := ⟨⟨by decide +kernel, by decide +kernel⟩, List.mem_of_getElem? (i := 874) (by decide +kernel), List.mem_of_getElem? (i := 1284) (by decide +kernel), List.mem_of_getElem? (i := 1285) (by decide +kernel)⟩
theorem lw_p93 : lw_okq (⟨"SlantOathsModel", "mixSheet", "(I)V"⟩, 17) := ⟨⟨by decide +kernel, by decide +kernel⟩, List.mem_of_getElem? (i := 874) (by decide +kernel), List.mem_of_getElem? (i := 1289) (by decide +kernel), List.mem_of_getElem? (i := 1290) (by decide +kernel)⟩
def lw_privs_6 : List (MethodName × Nat) := [(⟨"SlantOathsModel", "holds", "(I)Z"⟩, 17), (⟨"SlantOathsModel", "tellsCount", "(I)I"⟩, 17), (⟨"SlantOathsModel", "likeOaths", "()I"⟩, 17), (⟨"SlantOathsModel", "mostOfHand", "()I"⟩, 17), (⟨"SlantOathsModel", "trembling", "()I"⟩, 17), (⟨"SlantOathsModel", "likePairs", "()I"⟩, 17), (⟨"SlantOathsModel", "mostAlike", "(I)I"⟩, 17), (⟨"SlantOathsModel", "tolerance", "(III)I"⟩, 17), (⟨"SlantOathsModel", "wouldPass", "(III)I"⟩, 17), (⟨"SlantOathsModel", "putAside", "()V"⟩, 17), (⟨"SlantOathsModel", "takeBack", "()V"⟩, 17), (⟨"SlantOathsModel", "share", "()D"⟩, 17), (⟨"SlantOathsModel", "mix", "(J)V"⟩, 17), (⟨"SlantOathsModel", "mixSheet", "(I)V"⟩, 17)]
theorem lw_r6 : ∀ q ∈ lw_privs_6, lw_okq q := List.forall_mem_cons.mpr ⟨lw_p80, List.forall_mem_cons.mpr ⟨lw_p81, List.forall_mem_cons.mpr ⟨lw_p82, List.forall_mem_cons.mpr ⟨lw_p83, List.forall_mem_cons.mpr ⟨lw_p84, List.forall_mem_cons.mpr ⟨lw_p85, List.forall_mem_cons.mpr ⟨lw_p86, List.forall_mem_cons.mpr ⟨lw_p87, List.forall_mem_cons.mpr ⟨lw_p88, List.forall_mem_cons.mpr ⟨lw_p89, List.forall_mem_cons.mpr ⟨lw_p90, List.forall_mem_cons.mpr ⟨lw_p91, List.forall_mem_cons.mpr ⟨lw_p92, List.forall_mem_cons.mpr ⟨lw_p93, fun _ h => absurd h List.not_mem_nil⟩⟩⟩⟩⟩⟩⟩⟩⟩⟩⟩⟩⟩⟩
def lw_privs : List (MethodName × Nat) := lw_privs_1 ++ (lw_privs_2 ++ (lw_privs_3 ++ (lw_privs_4 ++ (lw_privs_5 ++ (lw_privs_6)))))
def lw_tbl : List Cond := k2_sels lw_privs ++ tables_1
theorem lw_privs_ok : ∀ q ∈ lw_privs, lw_okq q := by
  show ∀ q ∈ lw_privs_1 ++ (lw_privs_2 ++ (lw_privs_3 ++ (lw_privs_4 ++ (lw_privs_5 ++ (lw_privs_6))))), lw_okq q
  exact List.forall_mem_append.mpr ⟨lw_r1, List.forall_mem_append.mpr ⟨lw_r2, List.forall_mem_append.mpr ⟨lw_r3, List.forall_mem_append.mpr ⟨lw_r4, List.forall_mem_append.mpr ⟨lw_r5, lw_r6⟩⟩⟩⟩⟩
/-- the streams that the claim lets the run draw from -/
abbrev lw_cs : List Choice := [Jvm.Choice.named "NaN.bits"]
theorem lw_bits : nanBits ∈ lw_cs := by first | decide | exact List.mem_cons_self | simp [lw_cs, nanBits]
-- ===== end of PART A; then your names; then what follows =====
end
section
/-! ===== BEGIN words of one list among another's, by their places ===== -/
theorem goodIn_r {big : List Cond} (ws : List Cond) (ps : List Nat) (hp : ws = ps.filterMap (fun i => big[i]?)) (h : ws.all goodWord = true) : GoodIn big ws := by
  intro w hw
  have h1 := List.all_eq_true.mp h w hw
  rw [hp] at hw
  obtain ⟨i, -, hi⟩ := List.mem_filterMap.mp hw
  have hm : w ∈ big := by first | exact List.mem_of_getElem? hi | exact List.getElem?_mem hi
  exact ⟨hm, good_of_word h1⟩
theorem goodIn_app {big a b : List Cond} (ha : GoodIn big a) (hb : GoodIn big b) : GoodIn big (a ++ b) := fun w h => (List.mem_append.mp h).elim (ha w) (hb w)
theorem goodIn_ca {big a b : List Cond} {c : Cond} (ha : GoodIn big (c :: a)) (hb : GoodIn big b) : GoodIn big (c :: (a ++ b)) := fun w h => (List.mem_cons.mp h).elim (fun e => ha w (List.mem_cons.mpr (Or.inl e))) (fun h => (List.mem_append.mp h).elim (fun h => ha w (List.mem_cons.mpr (Or.inr h))) (hb w))
theorem goodIn_sub {big ws : List Cond} (hm : ∀ w ∈ ws, w ∈ big) (h : ws.all goodWord = true) : GoodIn big ws := fun w hw => ⟨hm w hw, good_of_word (List.all_eq_true.mp h w hw)⟩
/-! ===== END ===== -/

/-! ===== BEGIN exceptions that leave a method, and their catching by the caller (launches without stack traces) ===== -/
section VXA
/-! The laws vx_back, vx_callV, vx_callS, vx_callSW, vx_throw0, vx_throwS follow proofs of the library, with one case more: JvmDerived/Free/Laws.lean (Back.of_free), Shelf42/LK1.lean (callV, callS), Shelf/KitTraced.lean (throwNew0V, throwNewS). -/
/-- where a method has thrown q: the class by its name, the cell, what was written, the world -/
def vx_T (XC : String → State → State → Prop) (st : State) (q : Addr) (t : State) (mc ms : Nat) (free : Addr → Prop) : Prop :=
  ∃ (E : String) (ce : Cell) (L : List Loc), XC E st t ∧ t.heap[q]? = some ce ∧ ce.vm = .none ∧ st.vm.findClass E = some ce.cls ∧ st.WarmedH t.vm ∧ st.sameButNew ({ t with vm := st.vm } : State) L mc ms ∧ ∀ z ∈ L, free z.base
def vx_Q (Qc : Array Value → State → Outcome → State → Prop) (XC : String → State → State → Prop) (mc ms : Nat) (free : Addr → Prop) : Array Value → State → Outcome → State → Prop := fun a st o t =>
  (Qc a st o t ∧ ∃ L, FrameEnd st o t L mc ms ∧ ∀ q ∈ L, free q.base) ∨ ∃ q, o = .threw q ∧ vx_T XC st q t mc ms free
/-- a callee that returns or throws -/
def vx_Met (l : Launch) (y : MethodName) (ws : List Cond) (rm : Room) (Pc : Array Value → State → Prop) (Qc : Array Value → State → Outcome → State → Prop) (XC : String → State → State → Prop) (mc ms : Nat) (free : Addr → Prop) : Prop :=
  MetFree l y (headSpec ws rm) Pc (fun _ _ _ _ _ => True) (vx_Q Qc XC mc ms free)
def vx_Post (XC : String → State → State → Prop) (mc ms : Nat) (free : Addr → Prop) : Pt → Array Value → Addr → Pt → Prop := fun A a q B =>
  ∃ (g : JFrame) (mk : MethodId) (t : State) (L : List Loc) (E : String) (ce : Cell), B.U.heap = t.heap ∧ B.U.vm = t.vm ∧ XC E (A.U.calling g mk a) t ∧ t.heap[q]? = some ce ∧ ce.vm = .none ∧ A.U.vm.findClass E = some ce.cls ∧ B.locs = A.locs ++ L ∧ (∀ z ∈ L, free z.base) ∧ B.cells = A.cells + mc ∧ B.slots = A.slots + ms
def vx_Back (l : Launch) (R : Room) (p : Program) (e : Env) (below : List Frame) (s : State) (sargs : Array Value) (y : MethodName) (len W9 : Nat)
    (Pre : Pt → Array Value → Prop) (Post : Pt → Array Value → Option Value → Pt → Prop) (PostX : Pt → Array Value → Addr → Pt → Prop) : Prop :=
  ∀ (m : MethodId) (meth : Method) (c : Code) (A : Pt) (g : JFrame) (ig : Instr) (mk : MethodId) (a : Array Value),
    Stand p l e R s m sargs below meth c A.U A.locs A.cells A.slots → g.method = m → g.locals.size = c.maxLocals → decode c.code g.pc = .ok (ig, len) →
    2 * g.monitorRoom + (g.stack.map fun v => v.category).sum ≤ W9 → A.U.methodNamed? y = some mk → Pre A a →
    (∃ (v : Option Value) (B : Pt), Stand p l e R s m sargs below meth c B.U B.locs B.cells B.slots ∧ Post A a v B ∧
      Steps p.tables e below (doInvoke e (A.U.setTop g) [] mk a).1 (B.U.setTop { g with pc := g.pc + len, stack := v.toList ++ g.stack })) ∨
    (∃ (q : Addr) (B : Pt), Stand p l e R s m sargs below meth c B.U B.locs B.cells B.slots ∧ PostX A a q B ∧
      Steps p.tables e below (doInvoke e (A.U.setTop g) [] mk a).1 ((B.U.setTop g).pushFrame (.throwing q)))
section Payer
variable {l : Launch} {R : Room} {p : Program} {e : Env} {below : List Frame} {s : State} {sargs : Array Value} {y : MethodName} {len W9 : Nat}
theorem vx_back {ws : List Cond} {rm : Room} {Pc : Array Value → State → Prop} {Qc : Array Value → State → Outcome → State → Prop} {XC : String → State → State → Prop} {mc ms : Nat} {free : Addr → Prop} {bytes : ByteArray} {maxL : Nat} {ret : Option FieldType}
    (hM : vx_Met l y ws rm Pc Qc XC mc ms free) (hblind : FrameBlind Pc) (hrc : rm.cells = mc) (hrs : rm.slots = ms)
    (hframes : rm.frames + 1 ≤ R.frames) (hlocals : W9 + (maxL + 11) + rm.locals ≤ R.locals)
    (hws : ∀ w ∈ ws, ∀ a' U, s.WarmedH U.vm → w.before a' U = true) (hcode : Cond.code y bytes maxL ret ∈ ws) (hinit : ∀ a' U, s.WarmedH U.vm → (Cond.initialized y.cls).before a' U = true) :
    vx_Back l R p e below s sargs y len W9 (PreOf R mc ms Pc) (PostOf Qc mc ms free) (vx_Post XC mc ms free) := by
  intro m meth c A g ig mk a X hg hsize hdg hW hn hp
  have h1 : (headSpec ws rm).pre.before a A.U = true := atoms_intro fun w hw => hws w hw _ _ X.warmed
  have h2 : (Cond.code y bytes maxL ret).before a A.U = true := hws _ hcode _ _ X.warmed
  have h3 : (Cond.initialized y.cls).before a A.U = true := hinit _ _ X.warmed
  have h4 : A.cells + (headSpec ws rm).room.cells ≤ R.cells := by rw [show (headSpec ws rm).room.cells = mc from hrc]; exact hp.1
  have h5 : A.slots + (headSpec ws rm).room.slots ≤ R.slots := by rw [show (headSpec ws rm).room.slots = ms from hrs]; exact hp.2.1
  have hPc : Pc a (A.U.calling g mk a) := hblind _ _ _ _ hp.2.2
  obtain ⟨U, Ls, c0, s0⟩ := A
  dsimp only [Pt.U, Pt.locs, Pt.cells, Pt.slots] at h1 h2 h3 h4 h5 X hn hPc ⊢
  obtain ⟨methY, cY, hmY, hcY, -, hlY, -, -, -, -⟩ := Cond.code_spec hn h2
  obtain ⟨kY, hkY, -⟩ := className_of_methodNamed hn
  have hinitY : kY.init = .initialized := Cond.initialized_spec (findClass_of_methodNamed hn) hkY h3
  have h : At U g.method c below := by rw [hg]; exact X.here
  have hlocals9 : W9 + (maxL + 11) + (headSpec ws rm).room.locals ≤ R.locals := hlocals
  have happ : (headSpec ws rm).appliesLoose y e.platform (U.calling g mk a) = true :=
    Spec.appliesLoose_calling (g := g) h hdg hn hkY hinitY
      (X.room_calling (g := g) (R' := (headSpec ws rm).room) hsize hmY hcY hframes (by rw [hlY]; omega) h4 h5) h1
  obtain ⟨mid, hmid⟩ := h.above
  have hfr : (U.setTop g).frames = (.java g :: mid) ++ below := by rw [State.frames_setTop' g h.top, hmid]; rfl
  obtain ⟨o, s₂, hsteps, -, hend, hq⟩ := Steps.callFree hM p X.admits X.cas X.clock (acts := []) hfr happ hPc trivial
  have hq' : vx_Q Qc XC mc ms free a (U.calling g mk a) o s₂ := hq
  rw [State.frames_setTop' g h.top] at hend
  obtain ⟨g₀, hg0⟩ := Option.isSome_iff_exists.mp h.top
  obtain ⟨r, hr⟩ := State.topJava?_eq_some.mp hg0
  have hr' : (({ U with heap := s₂.heap, slotsUsed := s₂.slotsUsed } : State).setVm s₂.vm).frames = .java g₀ :: r := hr
  rcases hq' with ⟨hqc, L, hfe, hL⟩ | ⟨q, rfl, E, ce, L, hx, hce, hcv, hcl, hW₂, hsm, hL⟩
  · obtain ⟨⟨v, rfl⟩, hW₂, e2, q2, q3, q4, q5, q6⟩ := id hfe
    have e3 : s₂ = ({ (U.calling g mk a).setFrames s₂.frames with heap := s₂.heap, slotsUsed := s₂.slotsUsed } : State).setVm s₂.vm := by
      have : s₂ = ({ s₂ with vm := (U.calling g mk a).vm } : State).setVm s₂.vm := rfl
      rw [e2] at this
      exact this
    obtain ⟨c₂, i₂, len₂, hc₂, hd₂, hf₂⟩ := hend
    have hW' : U.WarmedH s₂.vm := hW₂
    have hcc : c₂ = c := by
      have h1 : s₂.code? g.method = U.code? g.method := by
        rw [State.code?_eq, State.code?_eq, hW'.alike.method?]
      exact Option.some.inj (hc₂.symm.trans (h1.trans h.code))
    subst hcc
    have hlen : len₂ = len := by rw [hdg] at hd₂; cases hd₂; rfl
    subst hlen
    have hs₂ : s₂ = (({ U with heap := s₂.heap, slotsUsed := s₂.slotsUsed } : State).setVm s₂.vm).setTop { g with pc := g.pc + len₂, stack := v.toList ++ g.stack } := by
      refine e3.trans ?_
      rw [hf₂, State.calling_eq h.top, State.setFrames_setFrames, State.setTop_of_frames _ hr', hr]
      rfl
    have hsame : U.sameButNew ({ U with heap := s₂.heap, slotsUsed := s₂.slotsUsed } : State) L mc ms := by
      refine ⟨?_, q2, q3, q4, q5, q6⟩
      obtain ⟨t, ht, -⟩ := State.frames_cons hr
      show ({ U with heap := s₂.heap, slotsUsed := s₂.slotsUsed } : State) = { U.setFrames U.frames with heap := s₂.heap, slotsUsed := s₂.slotsUsed }
      rw [State.setFrames_self ht]
    subst hg
    refine Or.inl ⟨v, ⟨(({ U with heap := s₂.heap, slotsUsed := s₂.slotsUsed } : State).setVm s₂.vm), Ls ++ L, c0 + mc, s0 + ms⟩,
      ⟨X.admits, X.cas, X.clock, X.frames, X.room, X.hears, X.method, X.code, (X.here.setHeapUsed s₂.heap s₂.slotsUsed).setVm hW'.alike, X.tail, State.WarmedH.trans X.warmed hW', X.limits, X.bytes, X.same.trans (hsame.setVm s.vm)⟩,
      ⟨g, mk, s₂, L, rfl, rfl, hqc, rfl, hL, rfl, rfl⟩, ?_⟩
    show Steps p.tables e below _ ((({ U with heap := s₂.heap, slotsUsed := s₂.slotsUsed } : State).setVm s₂.vm).setTop { g with pc := g.pc + len₂, stack := v.toList ++ g.stack })
    rw [← hs₂]
    exact hsteps
  · obtain ⟨e2, q2, q3, q4, q5, q6⟩ := id hsm
    have e3 : s₂ = ({ (U.calling g mk a).setFrames s₂.frames with heap := s₂.heap, slotsUsed := s₂.slotsUsed } : State).setVm s₂.vm := by
      have : s₂ = ({ s₂ with vm := (U.calling g mk a).vm } : State).setVm s₂.vm := rfl
      rw [e2] at this
      exact this
    have hf₂ : s₂.frames = .throwing q :: .java g :: U.frames.tail := hend
    have hW' : U.WarmedH s₂.vm := hW₂
    have hs₂ : s₂ = ((({ U with heap := s₂.heap, slotsUsed := s₂.slotsUsed } : State).setVm s₂.vm).setTop g).pushFrame (.throwing q) := by
      refine e3.trans ?_
      rw [hf₂, State.calling_eq h.top, State.setFrames_setFrames, State.pushFrame, State.frames_setTop _ hr', State.setTop_of_frames _ hr', State.setFrames_setFrames, hr]
      rfl
    have hsame : U.sameButNew ({ U with heap := s₂.heap, slotsUsed := s₂.slotsUsed } : State) L mc ms := by
      refine ⟨?_, q2, q3, q4, q5, q6⟩
      obtain ⟨t, ht, -⟩ := State.frames_cons hr
      show ({ U with heap := s₂.heap, slotsUsed := s₂.slotsUsed } : State) = { U.setFrames U.frames with heap := s₂.heap, slotsUsed := s₂.slotsUsed }
      rw [State.setFrames_self ht]
    subst hg
    refine Or.inr ⟨q, ⟨(({ U with heap := s₂.heap, slotsUsed := s₂.slotsUsed } : State).setVm s₂.vm), Ls ++ L, c0 + mc, s0 + ms⟩,
      ⟨X.admits, X.cas, X.clock, X.frames, X.room, X.hears, X.method, X.code, (X.here.setHeapUsed s₂.heap s₂.slotsUsed).setVm hW'.alike, X.tail, State.WarmedH.trans X.warmed hW', X.limits, X.bytes, X.same.trans (hsame.setVm s.vm)⟩,
      ⟨g, mk, s₂, L, E, ce, rfl, rfl, hx, hce, hcv, hcl, rfl, hL, rfl, rfl⟩, ?_⟩
    show Steps p.tables e below _ (((({ U with heap := s₂.heap, slotsUsed := s₂.slotsUsed } : State).setVm s₂.vm).setTop g).pushFrame (.throwing q))
    rw [← hs₂]
    exact hsteps
end Payer
section Calls
variable {p : Program} {l : Launch} {e : Env} {R : Room} {s : State} {m : MethodId} {args : Array Value} {below : List Frame} {meth : Method} {c : Code} {T : State} {locs : List Loc} {cells slots : Nat}
theorem vx_callV (X : Stand p l e R s m args below meth c T locs cells slots) (hexec : p.tables.exec = Jvm.exec) {own C : String} {index : Nat} {y : MethodName} {bytes : ByteArray} {maxL : Nat} {ret : Option FieldType}
    (hown : s.vm.findClass own = some m.cls) (hlink : (Cond.methodLink own index y).before args s = true) (hinst : (Cond.instanceMethod y).before args s = true) (hsel : (Cond.selects C y y).before args s = true)
    (hcode : (Cond.code y bytes maxL ret).before args s = true) (hy : y.cls ≠ "java/lang/invoke/MethodHandle" ∧ y.cls ≠ "java/lang/invoke/VarHandle")
    {W9 : Nat} {Pre : Pt → Array Value → Prop} {Post : Pt → Array Value → Option Value → Pt → Prop} {PostX : Pt → Array Value → Addr → Pt → Prop} (hK : vx_Back l R p e below s args y 3 W9 Pre Post PostX)
    {b : Addr} {cellB : Cell} (hcell : T.heap[b]? = some cellB) (hobj : cellB.vm.isStatics = false) (hcls : s.vm.findClass C = some cellB.cls)
    {g : JFrame} (hg : g.method = m) (hsize : g.locals.size = c.maxLocals) {argsL rest : List Value} (hlen : ∀ sig, parseMethodDescriptor y.desc = some sig → argsL.length = sig.parameters.length)
    (hstack : g.stack = argsL.reverse ++ .ref b :: rest) (hW : 2 * g.monitorRoom + (rest.map fun v => v.category).sum ≤ W9) (hdg : decode c.code g.pc = .ok (.invokevirtual index, 3))
    (hpre : ∀ vm₁, s.WarmedH vm₁ → Pre ⟨T.setVm vm₁, locs, cells, slots⟩ (Value.ref b :: argsL).toArray) :
    (∃ (v : Option Value) (vm₁ : Vm) (B : Pt), s.WarmedH vm₁ ∧ Stand p l e R s m args below meth c B.U B.locs B.cells B.slots ∧ Post ⟨T.setVm vm₁, locs, cells, slots⟩ (Value.ref b :: argsL).toArray v B ∧
      ∀ target, Steps p.tables e below (B.U.setTop { g with pc := g.pc + 3, stack := v.toList ++ rest }) target → Steps p.tables e below (T.setTop g) target) ∨
    (∃ (q : Addr) (vm₁ : Vm) (B : Pt), s.WarmedH vm₁ ∧ Stand p l e R s m args below meth c B.U B.locs B.cells B.slots ∧ PostX ⟨T.setVm vm₁, locs, cells, slots⟩ (Value.ref b :: argsL).toArray q B ∧
      Steps p.tables e below (T.setTop g) ((B.U.setTop { g with stack := rest }).pushFrame (.throwing q))) := by
  obtain ⟨mk, methM, hnamed, hmethM, hstM, habM⟩ := Cond.instanceMethod_spec hinst
  obtain ⟨methM', cM, hmethM', -, -, -, -, -, -, hsigM⟩ := Cond.code_spec hnamed hcode
  cases hmethM.symm.trans hmethM'
  obtain ⟨c2, r2, m2, q1, q2, q3, q4, kP, hkP, hkPi⟩ := Cond.selects_spec hsel
  cases hcls.symm.trans q1
  cases (State.methodFound?_of_named hnamed hy).symm.trans q2
  cases hnamed.symm.trans q3
  have hselP : selectMethod e.platform s.vm cellB.cls mk = .method mk := by rw [Launch.admits_selectMethod X.admits]; exact q4
  obtain ⟨vm₁, X₁, hstep₁⟩ := X.invokevirtual hexec hown hlink hnamed hmethM hstM hkP hkPi hy (a := b) (cell := cellB) hcell
    (fun z h => by rw [h] at hobj; cases hobj) hselP hmethM habM hkP hkPi (g := g) hg (argsL := argsL) (rest := rest) (hlen _ hsigM) hstack hdg
  rcases hK m meth c ⟨T.setVm vm₁, locs, cells, slots⟩ { g with stack := rest } (.invokevirtual index) mk (Value.ref b :: argsL).toArray X₁ hg hsize hdg hW (X₁.named hnamed) (hpre vm₁ X₁.warmed) with ⟨v, B, X', hpost, hsteps⟩ | ⟨q, B, X', hpost, hsteps⟩
  · exact Or.inl ⟨v, vm₁, B, X₁.warmed, X', hpost, fun target h => hstep₁ _ fun acts => by rw [doInvoke_state]; exact hsteps.trans h⟩
  · exact Or.inr ⟨q, vm₁, B, X₁.warmed, X', hpost, hstep₁ _ fun acts => by rw [doInvoke_state]; exact hsteps⟩
theorem vx_callS (X : Stand p l e R s m args below meth c T locs cells slots) (hexec : p.tables.exec = Jvm.exec) {own : String} {index : Nat} {y : MethodName} {bytes : ByteArray} {maxL : Nat} {ret : Option FieldType}
    (hown : s.vm.findClass own = some m.cls) (hlink : (Cond.methodLink own index y).before args s = true) (hstat : (Cond.static y).before args s = true) (hinit : (Cond.initialized y.cls).before args s = true)
    (hcode : (Cond.code y bytes maxL ret).before args s = true) (hy : y.cls ≠ "java/lang/invoke/MethodHandle" ∧ y.cls ≠ "java/lang/invoke/VarHandle")
    {W9 : Nat} {Pre : Pt → Array Value → Prop} {Post : Pt → Array Value → Option Value → Pt → Prop} {PostX : Pt → Array Value → Addr → Pt → Prop} (hK : vx_Back l R p e below s args y 3 W9 Pre Post PostX)
    {g : JFrame} (hg : g.method = m) (hsize : g.locals.size = c.maxLocals) {argsL rest : List Value} (hlen : ∀ sig, parseMethodDescriptor y.desc = some sig → argsL.length = sig.parameters.length)
    (hstack : g.stack = argsL.reverse ++ rest) (hW : 2 * g.monitorRoom + (rest.map fun v => v.category).sum ≤ W9) (hdg : decode c.code g.pc = .ok (.invokestatic index, 3))
    (hpre : ∀ vm₁, s.WarmedH vm₁ → Pre ⟨T.setVm vm₁, locs, cells, slots⟩ argsL.toArray) :
    (∃ (v : Option Value) (vm₁ : Vm) (B : Pt), s.WarmedH vm₁ ∧ Stand p l e R s m args below meth c B.U B.locs B.cells B.slots ∧ Post ⟨T.setVm vm₁, locs, cells, slots⟩ argsL.toArray v B ∧
      ∀ target, Steps p.tables e below (B.U.setTop { g with pc := g.pc + 3, stack := v.toList ++ rest }) target → Steps p.tables e below (T.setTop g) target) ∨
    (∃ (q : Addr) (vm₁ : Vm) (B : Pt), s.WarmedH vm₁ ∧ Stand p l e R s m args below meth c B.U B.locs B.cells B.slots ∧ PostX ⟨T.setVm vm₁, locs, cells, slots⟩ argsL.toArray q B ∧
      Steps p.tables e below (T.setTop g) ((B.U.setTop { g with stack := rest }).pushFrame (.throwing q))) := by
  obtain ⟨mk, hnamed⟩ := Cond.code_named hcode
  obtain ⟨methM, cM, hmethM, -, -, -, -, -, -, hsigM⟩ := Cond.code_spec hnamed hcode
  have hstatic : methM.isStatic = true := Cond.static_spec hnamed hmethM hstat
  obtain ⟨kP, hkP, -⟩ := className_of_methodNamed hnamed
  have hinitP : kP.init = .initialized := Cond.initialized_spec (findClass_of_methodNamed hnamed) hkP hinit
  obtain ⟨vm₁, X₁, hstep₁⟩ := X.invokestatic hexec hown hlink hnamed hmethM hstatic hkP hinitP hy (g := g) hg (argsL := argsL) (rest := rest) (hlen _ hsigM) hstack hdg
  rcases hK m meth c ⟨T.setVm vm₁, locs, cells, slots⟩ { g with stack := rest } (.invokestatic index) mk argsL.toArray X₁ hg hsize hdg hW (X₁.named hnamed) (hpre vm₁ X₁.warmed) with ⟨v, B, X', hpost, hsteps⟩ | ⟨q, B, X', hpost, hsteps⟩
  · exact Or.inl ⟨v, vm₁, B, X₁.warmed, X', hpost, fun target h => hstep₁ _ fun acts => by rw [doInvoke_state]; exact hsteps.trans h⟩
  · exact Or.inr ⟨q, vm₁, B, X₁.warmed, X', hpost, hstep₁ _ fun acts => by rw [doInvoke_state]; exact hsteps⟩
end Calls
theorem vx_cls {s : State} {T : State} {vm₁ : Vm} {E : String} {k : ClassId} (hW : s.WarmedH vm₁) (h : (T.setVm vm₁).vm.findClass E = some k) : s.vm.findClass E = some k := by
  have h1 : vm₁.findClass E = some k := h
  rw [hW.alike.findClass] at h1
  exact h1
/-- the method's frame g, with q thrown over it -/
def vx_W (p : Program) (l : Launch) (e : Env) (R : Room) (s : State) (m : MethodId) (args : Array Value) (below : List Frame) (meth : Method) (c : Code) (H : Heap) (locs : List Loc) (cells slots : Nat) (Q : State → Prop) (g : JFrame) (q : Addr) : Prop :=
  ∀ T : State, T.heap = H → Stand p l e R s m args below meth c T locs cells slots → ∃ t, Steps p.tables e below ((T.setTop g).pushFrame (.throwing q)) t ∧ Q t
def vx_Run (p : Program) (l : Launch) (e : Env) (R : Room) (s : State) (m : MethodId) (args : Array Value) (below : List Frame) (meth : Method) (c : Code) (H : Heap) (locs : List Loc) (cells slots mc ms : Nat) (g : JFrame) (rest : List Value) (Qa : State → Outcome → State → Prop) (XC : String → State → State → Prop) (free : Addr → Prop) : Prop :=
  ∀ T : State, T.heap = H → Stand p l e R s m args below meth c T locs cells slots →
    (∃ (v : Option Value) (st₀ t T' : State) (L : List Loc), st₀.heap = H ∧ Stand p l e R s m args below meth c T' (locs ++ L) (cells + mc) (slots + ms) ∧ (∀ q ∈ L, free q.base) ∧ T'.heap = t.heap ∧ T'.vm = t.vm ∧ Qa st₀ (.returned v) t ∧
      Goes p e below T g T' { g with pc := g.pc + 3, stack := v.toList ++ rest }) ∨
    (∃ (q : Addr) (st₀ t T' : State) (L : List Loc) (E : String) (ce : Cell), st₀.heap = H ∧ Stand p l e R s m args below meth c T' (locs ++ L) (cells + mc) (slots + ms) ∧ (∀ z ∈ L, free z.base) ∧ T'.heap = t.heap ∧ T'.vm = t.vm ∧ XC E st₀ t ∧ t.heap[q]? = some ce ∧ ce.vm = .none ∧ s.vm.findClass E = some ce.cls ∧
      Steps p.tables e below (T.setTop g) ((T'.setTop { g with stack := rest }).pushFrame (.throwing q)))
def vx_X {S : Type} (px : S → Prop) (B : String → S → State → Prop) (A : Nat → Prop) : String → State → State → Prop := fun E st t => ∃ u : S, px u ∧ B E u t ∧ va_F A st t
section Runs
variable {p : Program} {l : Launch} {e : Env} {R : Room} {s : State} {m : MethodId} {args : Array Value} {below : List Frame} {meth : Method} {c : Code} {H : Heap} {locs : List Loc} {cells slots : Nat}
variable {y : MethodName} {bytes cc : ByteArray} {maxL nL mc ms n index : Nat} {ret : Option FieldType} {ws : List Cond} {rm : Room} {Pc : Array Value → State → Prop} {Qc : Array Value → State → Outcome → State → Prop} {XC : String → State → State → Prop} {free : Addr → Prop} {Ts : List Cond} {own C : String} {b : Addr} {As rest : List Value} {g : JFrame}
theorem vx_callBack (cb : CallB R s args own index y bytes maxL ret ws rm mc ms n) (hM : vx_Met l y ws rm Pc Qc XC mc ms free) (hbl : FrameBlind Pc) : vx_Back l R p e below s args y 3 8 (PreOf R mc ms Pc) (PostOf Qc mc ms free) (vx_Post XC mc ms free) := by
  obtain ⟨hrc, hrs, hfr, hlo, hws, hcw, -, hini, -⟩ := cb
  exact vx_back (bytes := bytes) (maxL := maxL) (ret := ret) hM hbl hrc hrs hfr hlo hws hcw (fun a' U hW => word_at hW (Or.inl (by first | rfl | simp [Cond.onTables, Cond.keeps, Cond.steady])) hini)
theorem vx_runV (S : CallFix p m c cc nL s args Ts own) (hM : vx_Met l y ws rm Pc Qc XC mc ms free) (cw : CallW R s args own C index y bytes maxL ret ws rm mc ms n) (hp : PreV s H C b Pc As)
    (hg : g.method = m) (hn : As.length = n) (hsize : g.locals.size = nL) (hstack : g.stack = As.reverse ++ .ref b :: rest) (hW : 2 * g.monitorRoom + (rest.map fun v => v.category).sum ≤ 8) (hdg : decode cc g.pc = .ok (.invokevirtual index, 3)) (hf : cells + mc ≤ R.cells ∧ slots + ms ≤ R.slots) :
    vx_Run p l e R s m args below meth c H locs cells slots mc ms g rest (Qc (Value.ref b :: As).toArray) XC free := by
  have hK : vx_Back l R p e below s args y 3 8 (PreOf R mc ms Pc) (PostOf Qc mc ms free) (vx_Post XC mc ms free) := vx_callBack cw.1 hM hp.1
  obtain ⟨⟨-, -, -, -, -, -, hcode, -, hy, hlen, hl⟩, hin, hse⟩ := cw
  obtain ⟨hx, hb, hml, ho, -⟩ := S
  obtain ⟨-, ⟨cellB, hcB, hoB, hclB⟩, hPc⟩ := hp
  intro T hT X
  rcases vx_callV X hx (C := C) (bytes := bytes) (maxL := maxL) (ret := ret) ho hl hin hse hcode hy hK (by rw [hT]; exact hcB) hoB hclB hg (hsize.trans hml.symm) (argsL := As) (rest := rest) (fun sig h => hn.trans (hlen sig h)) hstack hW (by rw [hb]; exact hdg)
    (fun vm₁ hW₁ => ⟨hf.1, hf.2, hPc (T.setVm vm₁) hT hW₁⟩) with ⟨v, vm₁, ⟨U', l2, c2, s2⟩, hW₁, X', ⟨g', mk, t, L, e1, e2, hq, h1, hL, h2, h3⟩, st⟩ | ⟨q, vm₁, ⟨U', l2, c2, s2⟩, hW₁, X', ⟨g', mk, t, L, E, ce, e1, e2, hq, hce, hcv, hcl, h1, hL, h2, h3⟩, st⟩
  · dsimp only [Pt.U, Pt.locs, Pt.cells, Pt.slots] at X' e1 e2 h1 h2 h3 st
    subst h1; subst h2; subst h3
    exact Or.inl ⟨v, (T.setVm vm₁).calling g' mk (Value.ref b :: As).toArray, t, U', L, hT, X', hL, e1, e2, hq, st⟩
  · dsimp only [Pt.U, Pt.locs, Pt.cells, Pt.slots] at X' e1 e2 h1 h2 h3 st hcl
    subst h1; subst h2; subst h3
    exact Or.inr ⟨q, (T.setVm vm₁).calling g' mk (Value.ref b :: As).toArray, t, U', L, E, ce, hT, X', hL, e1, e2, hq, hce, hcv, vx_cls hW₁ hcl, st⟩
theorem vx_runS (S : CallFix p m c cc nL s args Ts own) (hM : vx_Met l y ws rm Pc Qc XC mc ms free) (cw : CallB R s args own index y bytes maxL ret ws rm mc ms n ∧ (Cond.static y).before args s = true) (hp : PreS s H Pc As)
    (hg : g.method = m) (hn : As.length = n) (hsize : g.locals.size = nL) (hstack : g.stack = As.reverse ++ rest) (hW : 2 * g.monitorRoom + (rest.map fun v => v.category).sum ≤ 8) (hdg : decode cc g.pc = .ok (.invokestatic index, 3)) (hf : cells + mc ≤ R.cells ∧ slots + ms ≤ R.slots) :
    vx_Run p l e R s m args below meth c H locs cells slots mc ms g rest (Qc As.toArray) XC free := by
  have hK : vx_Back l R p e below s args y 3 8 (PreOf R mc ms Pc) (PostOf Qc mc ms free) (vx_Post XC mc ms free) := vx_callBack cw.1 hM hp.1
  obtain ⟨⟨-, -, -, -, -, -, hcode, hini, hy, hlen, hl⟩, hstt⟩ := cw
  obtain ⟨hx, hb, hml, ho, -⟩ := S
  intro T hT X
  rcases vx_callS X hx (bytes := bytes) (maxL := maxL) (ret := ret) ho hl hstt hini hcode hy hK hg (hsize.trans hml.symm) (argsL := As) (rest := rest) (fun sig h => hn.trans (hlen sig h)) hstack hW (by rw [hb]; exact hdg)
    (fun vm₁ hW₁ => ⟨hf.1, hf.2, hp.2 (T.setVm vm₁) hT hW₁⟩) with ⟨v, vm₁, ⟨U', l2, c2, s2⟩, hW₁, X', ⟨g', mk, t, L, e1, e2, hq, h1, hL, h2, h3⟩, st⟩ | ⟨q, vm₁, ⟨U', l2, c2, s2⟩, hW₁, X', ⟨g', mk, t, L, E, ce, e1, e2, hq, hce, hcv, hcl, h1, hL, h2, h3⟩, st⟩
  · dsimp only [Pt.U, Pt.locs, Pt.cells, Pt.slots] at X' e1 e2 h1 h2 h3 st
    subst h1; subst h2; subst h3
    exact Or.inl ⟨v, (T.setVm vm₁).calling g' mk As.toArray, t, U', L, hT, X', hL, e1, e2, hq, st⟩
  · dsimp only [Pt.U, Pt.locs, Pt.cells, Pt.slots] at X' e1 e2 h1 h2 h3 st hcl
    subst h1; subst h2; subst h3
    exact Or.inr ⟨q, (T.setVm vm₁).calling g' mk As.toArray, t, U', L, E, ce, hT, X', hL, e1, e2, hq, hce, hcv, vx_cls hW₁ hcl, st⟩
end Runs
section Rows
variable {p : Program} {l : Launch} {e : Env} {R : Room} {s : State} {m : MethodId} {args : Array Value} {below : List Frame} {meth : Method} {c : Code} {H : Heap} {locs : List Loc} {cells slots : Nat} {Q : State → Prop}
variable {mc ms : Nat} {free : Addr → Prop} {A0 A1 : Nat → Prop} {H0 : Heap} {a : Array Value} {pc : Nat} {ls : Array Slot} {st0 rest : List Value}
theorem vx_keep {st₀ t T' : State} {L : List Loc} (h0 : st₀.heap = H) (e1 : T'.heap = t.heap) (hS : va_S A0 H0 H locs) (hA : ∀ q, q < H.size → A1 q → A0 q) (hf : ∀ q, free q → A0 q) (hL : ∀ q ∈ L, free q.base) (hF : va_F A1 st₀ t) :
    H.size ≤ T'.heap.size ∧ (∀ q : Nat, q < H.size → ¬ A1 q → T'.heap[q]? = H[q]?) ∧ va_S A0 H0 T'.heap (locs ++ L) := by
  obtain ⟨hz, hk⟩ := hF
  rw [h0] at hz hk
  exact ⟨by rw [e1]; exact hz, fun q h1 h2 => by rw [e1]; exact hk q h1 h2,
    ⟨Nat.le_trans hS.1 (by rw [e1]; exact hz), fun q h1 h2 => by rw [e1, hk q (Nat.lt_of_lt_of_le h1 hS.1) (fun z => h2 (hA q (Nat.lt_of_lt_of_le h1 hS.1) z))]; exact hS.2.1 q h1 h2, fun q hq => by
      rcases List.mem_append.mp hq with h | h
      · exact hS.2.2 q h
      · exact hf _ (hL q h)⟩⟩
theorem vx_calli {S SX : Type} {post : Int32 → S → Prop} {px : SX → Prop} {B : S → State → Prop} {BX : String → SX → State → Prop} {AX : Nat → Prop} (hr : vx_Run p l e R s m args below meth c H locs cells slots mc ms (F0 m pc ls st0) rest (va_Qi post B A1 a) (vx_X px BX AX) free) (hS : va_S A0 H0 H locs) (hA : ∀ q, q < H.size → A1 q → A0 q) (hf : ∀ q, free q → A0 q) (hAX : ∀ q, q < H.size → AX q → A0 q)
    (kx : ∀ (E : String) (ce : Cell) (q9 : Addr) (u : SX) (t : State) (H1 : Heap) (locs1 : List Loc), t.heap = H1 → s.vm.Alike t.vm → px u → BX E u t → H.size ≤ H1.size → (∀ q : Nat, q < H.size → ¬ AX q → H1[q]? = H[q]?) → va_S A0 H0 H1 locs1 → H1[q9]? = some ce → ce.vm = .none → s.vm.findClass E = some ce.cls → vx_W p l e R s m args below meth c H1 locs1 (cells + mc) (slots + ms) Q (F0 m pc ls rest) q9)
    (kk : ∀ (r : Int32) (u : S) (t : State) (H1 : Heap) (locs1 : List Loc), t.heap = H1 → s.vm.Alike t.vm → post r u → B u t → H.size ≤ H1.size → (∀ q : Nat, q < H.size → ¬ A1 q → H1[q]? = H[q]?) → va_S A0 H0 H1 locs1 → W p l e R s m args below meth c H1 locs1 (cells + mc) (slots + ms) Q (F0 m (pc + 3) ls (.int r :: rest))) : W p l e R s m args below meth c H locs cells slots Q (F0 m pc ls st0) := by
  intro T hT X
  rcases hr T hT X with ⟨v, st₀, t, T', L, h0, X', hL, e1, e2, ⟨⟨r, u, hv, hp, hb⟩, hF⟩, st⟩ | ⟨q, st₀, t, T', L, E, ce, h0, X', hL, e1, e2, ⟨u, hp, hb, hF⟩, hce, hcv, hcl, st⟩
  · cases hv
    obtain ⟨k1, k2, k3⟩ := vx_keep h0 e1 hS hA hf hL hF
    obtain ⟨t2, a1, b1⟩ := kk r u t T'.heap (locs ++ L) e1.symm (by rw [← e2]; exact X'.warmed.alike) hp hb k1 k2 k3 T' rfl X'
    exact ⟨t2, st t2 a1, b1⟩
  · obtain ⟨k1, k2, k3⟩ := vx_keep h0 e1 hS hAX hf hL hF
    obtain ⟨t2, a1, b1⟩ := kx E ce q u t T'.heap (locs ++ L) e1.symm (by rw [← e2]; exact X'.warmed.alike) hp hb k1 k2 k3 (by rw [e1]; exact hce) hcv hcl T' rfl X'
    exact ⟨t2, st.trans a1, b1⟩
theorem vx_calll {S SX : Type} {post : Int64 → S → Prop} {px : SX → Prop} {B : S → State → Prop} {BX : String → SX → State → Prop} {AX : Nat → Prop} (hr : vx_Run p l e R s m args below meth c H locs cells slots mc ms (F0 m pc ls st0) rest (va_Ql post B A1 a) (vx_X px BX AX) free) (hS : va_S A0 H0 H locs) (hA : ∀ q, q < H.size → A1 q → A0 q) (hf : ∀ q, free q → A0 q) (hAX : ∀ q, q < H.size → AX q → A0 q)
    (kx : ∀ (E : String) (ce : Cell) (q9 : Addr) (u : SX) (t : State) (H1 : Heap) (locs1 : List Loc), t.heap = H1 → s.vm.Alike t.vm → px u → BX E u t → H.size ≤ H1.size → (∀ q : Nat, q < H.size → ¬ AX q → H1[q]? = H[q]?) → va_S A0 H0 H1 locs1 → H1[q9]? = some ce → ce.vm = .none → s.vm.findClass E = some ce.cls → vx_W p l e R s m args below meth c H1 locs1 (cells + mc) (slots + ms) Q (F0 m pc ls rest) q9)
    (kk : ∀ (r : Int64) (u : S) (t : State) (H1 : Heap) (locs1 : List Loc), t.heap = H1 → s.vm.Alike t.vm → post r u → B u t → H.size ≤ H1.size → (∀ q : Nat, q < H.size → ¬ A1 q → H1[q]? = H[q]?) → va_S A0 H0 H1 locs1 → W p l e R s m args below meth c H1 locs1 (cells + mc) (slots + ms) Q (F0 m (pc + 3) ls (.long r :: rest))) : W p l e R s m args below meth c H locs cells slots Q (F0 m pc ls st0) := by
  intro T hT X
  rcases hr T hT X with ⟨v, st₀, t, T', L, h0, X', hL, e1, e2, ⟨⟨r, u, hv, hp, hb⟩, hF⟩, st⟩ | ⟨q, st₀, t, T', L, E, ce, h0, X', hL, e1, e2, ⟨u, hp, hb, hF⟩, hce, hcv, hcl, st⟩
  · cases hv
    obtain ⟨k1, k2, k3⟩ := vx_keep h0 e1 hS hA hf hL hF
    obtain ⟨t2, a1, b1⟩ := kk r u t T'.heap (locs ++ L) e1.symm (by rw [← e2]; exact X'.warmed.alike) hp hb k1 k2 k3 T' rfl X'
    exact ⟨t2, st t2 a1, b1⟩
  · obtain ⟨k1, k2, k3⟩ := vx_keep h0 e1 hS hAX hf hL hF
    obtain ⟨t2, a1, b1⟩ := kx E ce q u t T'.heap (locs ++ L) e1.symm (by rw [← e2]; exact X'.warmed.alike) hp hb k1 k2 k3 (by rw [e1]; exact hce) hcv hcl T' rfl X'
    exact ⟨t2, st.trans a1, b1⟩
theorem vx_callf {S SX : Type} {post : UInt32 → S → Prop} {px : SX → Prop} {B : S → State → Prop} {BX : String → SX → State → Prop} {AX : Nat → Prop} (hr : vx_Run p l e R s m args below meth c H locs cells slots mc ms (F0 m pc ls st0) rest (va_Qf post B A1 a) (vx_X px BX AX) free) (hS : va_S A0 H0 H locs) (hA : ∀ q, q < H.size → A1 q → A0 q) (hf : ∀ q, free q → A0 q) (hAX : ∀ q, q < H.size → AX q → A0 q)
    (kx : ∀ (E : String) (ce : Cell) (q9 : Addr) (u : SX) (t : State) (H1 : Heap) (locs1 : List Loc), t.heap = H1 → s.vm.Alike t.vm → px u → BX E u t → H.size ≤ H1.size → (∀ q : Nat, q < H.size → ¬ AX q → H1[q]? = H[q]?) → va_S A0 H0 H1 locs1 → H1[q9]? = some ce → ce.vm = .none → s.vm.findClass E = some ce.cls → vx_W p l e R s m args below meth c H1 locs1 (cells + mc) (slots + ms) Q (F0 m pc ls rest) q9)
    (kk : ∀ (r : UInt32) (u : S) (t : State) (H1 : Heap) (locs1 : List Loc), t.heap = H1 → s.vm.Alike t.vm → post r u → B u t → H.size ≤ H1.size → (∀ q : Nat, q < H.size → ¬ A1 q → H1[q]? = H[q]?) → va_S A0 H0 H1 locs1 → W p l e R s m args below meth c H1 locs1 (cells + mc) (slots + ms) Q (F0 m (pc + 3) ls (.float r :: rest))) : W p l e R s m args below meth c H locs cells slots Q (F0 m pc ls st0) := by
  intro T hT X
  rcases hr T hT X with ⟨v, st₀, t, T', L, h0, X', hL, e1, e2, ⟨⟨r, u, hv, hp, hb⟩, hF⟩, st⟩ | ⟨q, st₀, t, T', L, E, ce, h0, X', hL, e1, e2, ⟨u, hp, hb, hF⟩, hce, hcv, hcl, st⟩
  · cases hv
    obtain ⟨k1, k2, k3⟩ := vx_keep h0 e1 hS hA hf hL hF
    obtain ⟨t2, a1, b1⟩ := kk r u t T'.heap (locs ++ L) e1.symm (by rw [← e2]; exact X'.warmed.alike) hp hb k1 k2 k3 T' rfl X'
    exact ⟨t2, st t2 a1, b1⟩
  · obtain ⟨k1, k2, k3⟩ := vx_keep h0 e1 hS hAX hf hL hF
    obtain ⟨t2, a1, b1⟩ := kx E ce q u t T'.heap (locs ++ L) e1.symm (by rw [← e2]; exact X'.warmed.alike) hp hb k1 k2 k3 (by rw [e1]; exact hce) hcv hcl T' rfl X'
    exact ⟨t2, st.trans a1, b1⟩
theorem vx_calld {S SX : Type} {post : UInt64 → S → Prop} {px : SX → Prop} {B : S → State → Prop} {BX : String → SX → State → Prop} {AX : Nat → Prop} (hr : vx_Run p l e R s m args below meth c H locs cells slots mc ms (F0 m pc ls st0) rest (va_Qd post B A1 a) (vx_X px BX AX) free) (hS : va_S A0 H0 H locs) (hA : ∀ q, q < H.size → A1 q → A0 q) (hf : ∀ q, free q → A0 q) (hAX : ∀ q, q < H.size → AX q → A0 q)
    (kx : ∀ (E : String) (ce : Cell) (q9 : Addr) (u : SX) (t : State) (H1 : Heap) (locs1 : List Loc), t.heap = H1 → s.vm.Alike t.vm → px u → BX E u t → H.size ≤ H1.size → (∀ q : Nat, q < H.size → ¬ AX q → H1[q]? = H[q]?) → va_S A0 H0 H1 locs1 → H1[q9]? = some ce → ce.vm = .none → s.vm.findClass E = some ce.cls → vx_W p l e R s m args below meth c H1 locs1 (cells + mc) (slots + ms) Q (F0 m pc ls rest) q9)
    (kk : ∀ (r : UInt64) (u : S) (t : State) (H1 : Heap) (locs1 : List Loc), t.heap = H1 → s.vm.Alike t.vm → post r u → B u t → H.size ≤ H1.size → (∀ q : Nat, q < H.size → ¬ A1 q → H1[q]? = H[q]?) → va_S A0 H0 H1 locs1 → W p l e R s m args below meth c H1 locs1 (cells + mc) (slots + ms) Q (F0 m (pc + 3) ls (.double r :: rest))) : W p l e R s m args below meth c H locs cells slots Q (F0 m pc ls st0) := by
  intro T hT X
  rcases hr T hT X with ⟨v, st₀, t, T', L, h0, X', hL, e1, e2, ⟨⟨r, u, hv, hp, hb⟩, hF⟩, st⟩ | ⟨q, st₀, t, T', L, E, ce, h0, X', hL, e1, e2, ⟨u, hp, hb, hF⟩, hce, hcv, hcl, st⟩
  · cases hv
    obtain ⟨k1, k2, k3⟩ := vx_keep h0 e1 hS hA hf hL hF
    obtain ⟨t2, a1, b1⟩ := kk r u t T'.heap (locs ++ L) e1.symm (by rw [← e2]; exact X'.warmed.alike) hp hb k1 k2 k3 T' rfl X'
    exact ⟨t2, st t2 a1, b1⟩
  · obtain ⟨k1, k2, k3⟩ := vx_keep h0 e1 hS hAX hf hL hF
    obtain ⟨t2, a1, b1⟩ := kx E ce q u t T'.heap (locs ++ L) e1.symm (by rw [← e2]; exact X'.warmed.alike) hp hb k1 k2 k3 (by rw [e1]; exact hce) hcv hcl T' rfl X'
    exact ⟨t2, st.trans a1, b1⟩
theorem vx_callv {S SX : Type} {post : S → Prop} {px : SX → Prop} {B : S → State → Prop} {BX : String → SX → State → Prop} {AX : Nat → Prop} (hr : vx_Run p l e R s m args below meth c H locs cells slots mc ms (F0 m pc ls st0) rest (va_Qv post B A1 a) (vx_X px BX AX) free) (hS : va_S A0 H0 H locs) (hA : ∀ q, q < H.size → A1 q → A0 q) (hf : ∀ q, free q → A0 q) (hAX : ∀ q, q < H.size → AX q → A0 q)
    (kx : ∀ (E : String) (ce : Cell) (q9 : Addr) (u : SX) (t : State) (H1 : Heap) (locs1 : List Loc), t.heap = H1 → s.vm.Alike t.vm → px u → BX E u t → H.size ≤ H1.size → (∀ q : Nat, q < H.size → ¬ AX q → H1[q]? = H[q]?) → va_S A0 H0 H1 locs1 → H1[q9]? = some ce → ce.vm = .none → s.vm.findClass E = some ce.cls → vx_W p l e R s m args below meth c H1 locs1 (cells + mc) (slots + ms) Q (F0 m pc ls rest) q9)
    (kk : ∀ (u : S) (t : State) (H1 : Heap) (locs1 : List Loc), t.heap = H1 → s.vm.Alike t.vm → post u → B u t → H.size ≤ H1.size → (∀ q : Nat, q < H.size → ¬ A1 q → H1[q]? = H[q]?) → va_S A0 H0 H1 locs1 → W p l e R s m args below meth c H1 locs1 (cells + mc) (slots + ms) Q (F0 m (pc + 3) ls (rest))) : W p l e R s m args below meth c H locs cells slots Q (F0 m pc ls st0) := by
  intro T hT X
  rcases hr T hT X with ⟨v, st₀, t, T', L, h0, X', hL, e1, e2, ⟨⟨u, hv, hp, hb⟩, hF⟩, st⟩ | ⟨q, st₀, t, T', L, E, ce, h0, X', hL, e1, e2, ⟨u, hp, hb, hF⟩, hce, hcv, hcl, st⟩
  · cases hv
    obtain ⟨k1, k2, k3⟩ := vx_keep h0 e1 hS hA hf hL hF
    obtain ⟨t2, a1, b1⟩ := kk u t T'.heap (locs ++ L) e1.symm (by rw [← e2]; exact X'.warmed.alike) hp hb k1 k2 k3 T' rfl X'
    exact ⟨t2, st t2 a1, b1⟩
  · obtain ⟨k1, k2, k3⟩ := vx_keep h0 e1 hS hAX hf hL hF
    obtain ⟨t2, a1, b1⟩ := kx E ce q u t T'.heap (locs ++ L) e1.symm (by rw [← e2]; exact X'.warmed.alike) hp hb k1 k2 k3 (by rw [e1]; exact hce) hcv hcl T' rfl X'
    exact ⟨t2, st.trans a1, b1⟩
/-- caught by the row x of this method's table; the rows ahead don't take it -/
theorem vx_catch {own name : String} {E : String} {ce : Cell} {q : Addr} (hown : s.vm.findClass own = some m.cls) (pre : List ExceptionTableEntry) (x : ExceptionTableEntry) (suf : List ExceptionTableEntry) (hsplit : c.exceptionTable.toList = pre ++ x :: suf)
    (hpass : ∀ z ∈ pre, covers z pc = false ∨ (z.catchType ≠ 0 ∧ ∃ nm : String, (Cond.classLink own z.catchType nm).before args s = true ∧ va_Nc E nm s)) (hx : covers x pc = true) (h0 : x.catchType ≠ 0)
    (hlink : (Cond.classLink own x.catchType name).before args s = true) (hcast : (Cond.castable E name).before args s = true) (hcell : H[q]? = some ce) (hv : ce.vm = .none) (hcl : s.vm.findClass E = some ce.cls)
    (kk : W p l e R s m args below meth c H locs cells slots Q (F0 m x.handlerPc ls [.ref q])) : vx_W p l e R s m args below meth c H locs cells slots Q (F0 m pc ls rest) q := by
  intro T hT X
  have hpl : e.platform.magicAccessors = ({} : Platform).magicAccessors := by rw [X.admits.platform]
  obtain ⟨c3, c4, hc3, hc4, hasg⟩ := Cond.castable_spec hcast
  cases Option.some.inj (hc3.symm.trans hcl)
  obtain ⟨c5, hc5, hcl5⟩ := Cond.classLink_spec hown hlink e.platform hpl
  cases Option.some.inj (hc4.symm.trans hc5)
  obtain ⟨vm', X', st⟩ := X.thenCaughtThrough q (g := F0 m pc ls rest) rfl (Steps.refl _) (by rw [hT]; exact hcell) (by rw [hv]; rfl) (by obtain ⟨k9, h9, -⟩ := Vm.findClass_spec hcl; exact ⟨k9, h9⟩) pre x suf hsplit
    (fun z hz => by
      rcases hpass z hz with h | ⟨hz0, nm, hl1, hn1⟩
      · exact Or.inl h
      · obtain ⟨c6, hc6, hcl6⟩ := Cond.classLink_spec hown hl1 e.platform hpl
        obtain ⟨a8, b8, h1, h2, h3⟩ := hn1
        cases Option.some.inj (h1.symm.trans hcl)
        cases Option.some.inj (h2.symm.trans hc6)
        exact Or.inr ⟨hz0, _, hcl6, h3⟩) hx (Or.inr ⟨h0, c4, hcl5, hasg⟩)
  obtain ⟨t, a1, b1⟩ := kk (T.setVm vm') hT X'
  exact ⟨t, st.trans a1, b1⟩
end Rows
section Ends
variable {p : Program} {l : Launch} {e : Env} {R : Room} {s : State} {m : MethodId} {args : Array Value} {below : List Frame} {meth : Method} {c : Code} {H : Heap} {locs : List Loc} {cells slots : Nat} {Q : State → Prop}
variable {mc ms : Nat} {free : Addr → Prop} {A0 A1 : Nat → Prop} {H0 : Heap} {a : Array Value} {ls : Array Slot} {st0 rest : List Value}
variable {Qc : Array Value → State → Outcome → State → Prop} {XC : String → State → State → Prop}
/-- what a body that may throw owes at its end -/
def vx_MQ (below : List Frame) (Qc : Array Value → State → Outcome → State → Prop) (XC : String → State → State → Prop) (a : Array Value) (s : State) (mc ms : Nat) (free : Addr → Prop) : State → Prop := fun t =>
  ∃ o, t.status = .running ∧ Ended t below o ∧ vx_Q Qc XC mc ms free a s o t
theorem vx_ret {g : JFrame} {mc ms : Nat} (k : W p l e R s m args below meth c H locs cells slots (MQ below Qc args s mc ms free) g) : W p l e R s m args below meth c H locs cells slots (vx_MQ below Qc XC args s mc ms free) g := by
  intro T hT X
  obtain ⟨t, a1, o, b1, b2, b3, b4⟩ := k T hT X
  exact ⟨t, a1, o, b1, b2, Or.inl ⟨b3, b4⟩⟩
/-- not caught here: it goes on to the caller -/
theorem vx_widen {g : JFrame} {q : Addr} {k n : Nat} (h1 : cells ≤ k) (h2 : slots ≤ n) (kk : vx_W p l e R s m args below meth c H locs k n Q g q) : vx_W p l e R s m args below meth c H locs cells slots Q g q := fun T hT X => kk T hT (stand_widen X h1 h2)
theorem vx_out {pc : Nat} {E : String} {ce : Cell} {q : Addr} {mc ms : Nat} (hout : ∀ x ∈ c.exceptionTable.toList, covers x pc = false) (hlocks : meth.locks = false) (hcell : H[q]? = some ce) (hv : ce.vm = .none) (hcl : s.vm.findClass E = some ce.cls)
    (hx : ∀ t : State, t.heap = H → s.vm.Alike t.vm → XC E s t) (hf : ∀ z ∈ locs, free z.base) (hc : cells ≤ mc) (hs : slots ≤ ms) :
    vx_W p l e R s m args below meth c H locs cells slots (vx_MQ below Qc XC args s mc ms free) (F0 m pc ls rest) q := by
  intro T hT X
  obtain ⟨st1, hrun, hend, hW, hsm⟩ := X.leaveThrown q (g := F0 m pc ls rest) rfl rfl rfl hout hlocks
  have hcell9 : (T.setFrames (.throwing q :: below)).heap[q]? = some ce := by
    show T.heap[q]? = some ce
    rw [hT]; exact hcell
  exact ⟨_, st1, .threw q, hrun, hend, Or.inr ⟨q, rfl, E, ce, locs, hx _ hT hW.alike, hcell9, hv, hcl, hW, hsm.mono hc hs, hf⟩⟩
theorem vx_frame {U : State} {k n : Nat} (h : s.sameButNew ({ U with vm := s.vm } : State) locs k n) : s.heap.size ≤ U.heap.size ∧ ∀ q : Nat, q < s.heap.size → (∀ z ∈ locs, z.base ≠ q) → U.heap[q]? = s.heap[q]? := by
  obtain ⟨-, h2, -, -, -, h6⟩ := h
  refine ⟨h2, fun q hq hz => ?_⟩
  obtain ⟨c9, e1, e2, e3, e4⟩ := h6 q _ (Array.getElem?_eq_getElem hq)
  have hs : c9.slots = (s.heap[q]).slots := Array.ext_getElem? fun i => e4 i fun hm => hz _ hm rfl
  have h9 : c9 = s.heap[q] := by
    rw [hs] at e2
    exact e2
  have e5 : U.heap[q]? = some c9 := e1
  rw [e5, h9, Array.getElem?_eq_getElem hq]
/-- the words of a throw but the four that speak of the heap -/
def vx_no (w : Cond) : Bool := decide (w ≠ .isRef (.static Bundle.tN "UNASSIGNED_STACK" Bundle.steD)) && decide (w ≠ .isRef (.static Bundle.tN "SUPPRESSED_SENTINEL" Bundle.listD)) && decide (w ≠ .laysStatic Bundle.tN "UNASSIGNED_STACK" Bundle.steD) && decide (w ≠ .laysStatic Bundle.tN "SUPPRESSED_SENTINEL" Bundle.listD)
def vx_at0 (own : String) (ic : Nat) (X : String) (names : List String) : List Cond := (Bundle.ownAtoms0 own ic X names).filter vx_no
def vx_atS (own : String) (ic : Nat) (X : String) (names : List String) : List Cond := (Bundle.ownAtoms own ic X names).filter vx_no
/-- a word that the tables alone decide, or a good one -/
def vx_ot (w : Cond) : Bool := w.onTables || goodWord w
theorem vx_ot_at {args a' : Array Value} {s U : State} {w : Cond} (hW : s.WarmedH U.vm) (hvm : s.vm = U.vm) (hg : vx_ot w = true) (h : w.before args s = true) : w.before a' U = true := by
  simp only [vx_ot, Bool.or_eq_true] at hg
  rcases hg with hg | hg
  · exact va_tabs hg hvm h
  · exact word_at hW (good_of_word hg) h
/-- a list's words: the good ones out of the method's own list, the others by premises of their own -/
theorem vx_hat {args : Array Value} {s : State} {L B : List Cond} (h1 : ∀ w ∈ L.filter goodWord, w.before args s = true) (h2 : ∀ w ∈ L.filter (fun w => !goodWord w), w ∈ B) (h3 : ∀ w ∈ B, w.before args s = true) : ∀ w ∈ L, w.before args s = true := by
  intro w hw
  by_cases g : goodWord w = true
  · exact h1 w (List.mem_filter.mpr ⟨hw, g⟩)
  · refine h3 w (h2 w (List.mem_filter.mpr ⟨hw, ?_⟩))
    show (!goodWord w) = true
    cases hgw : goodWord w
    · rfl
    · exact absurd hgw g
theorem vx_c {args : Array Value} {s : State} {w : Cond} {B : List Cond} (h : w.before args s = true) (t : ∀ w ∈ B, w.before args s = true) : ∀ w' ∈ w :: B, w'.before args s = true := fun w' h' => (List.mem_cons.mp h').elim (fun e => by rw [e]; exact h) (t w')
theorem vx_n {args : Array Value} {s : State} : ∀ w ∈ ([] : List Cond), w.before args s = true := fun _ h => nomatch h
theorem vx_own {args : Array Value} {s : State} {L : List Cond} (h1 : ∀ w ∈ L.filter vx_no, w.before args s = true)
    (hU : (Cond.isRef (.static Bundle.tN "UNASSIGNED_STACK" Bundle.steD)).before args s = true) (hN : (Cond.isRef (.static Bundle.tN "SUPPRESSED_SENTINEL" Bundle.listD)).before args s = true)
    (lU : (Cond.laysStatic Bundle.tN "UNASSIGNED_STACK" Bundle.steD).before args s = true) (lN : (Cond.laysStatic Bundle.tN "SUPPRESSED_SENTINEL" Bundle.listD).before args s = true) : ∀ w ∈ L, w.before args s = true := by
  intro w hw
  by_cases e1 : w = .isRef (.static Bundle.tN "UNASSIGNED_STACK" Bundle.steD)
  · rw [e1]; exact hU
  · by_cases e2 : w = .isRef (.static Bundle.tN "SUPPRESSED_SENTINEL" Bundle.listD)
    · rw [e2]; exact hN
    · by_cases e3 : w = .laysStatic Bundle.tN "UNASSIGNED_STACK" Bundle.steD
      · rw [e3]; exact lU
      · by_cases e4 : w = .laysStatic Bundle.tN "SUPPRESSED_SENTINEL" Bundle.listD
        · rw [e4]; exact lN
        · exact h1 w (List.mem_filter.mpr ⟨hw, by unfold vx_no; rw [decide_eq_true e1, decide_eq_true e2, decide_eq_true e3, decide_eq_true e4]; rfl⟩)
/-- where a static field lies, its class's statics cell in H -/
def vx_L (C n d : String) (A : Nat → Prop) (U : State) (H : Heap) : Prop := ∃ (c : ClassId) (k : Class) (i : Nat) (f : Field) (a : Nat) (cell : Cell), U.vm.findClass C = some c ∧ U.fieldFound? C n d = some (c, k, i, f) ∧ f.isStatic = true ∧ k.statics = some a ∧ H[a]? = some cell ∧ cell.vm.isStatics = true ∧ cell.cls = c ∧ f.slot < cell.slots.size ∧ k.staticTypes[f.slot]? = some f.type ∧ ¬ A a
theorem vx_L.moved {C n d : String} {A : Nat → Prop} {u U : State} {H : Heap} (hvm : u.vm.Alike U.vm) (h : vx_L C n d A u H) : vx_L C n d A U H := by
  obtain ⟨c, k, i, f, a, cell, h1, h2, h3, h4, h5, h6, h7, h8, h9, h10⟩ := h
  obtain ⟨k', hi', he⟩ := State.fieldFound?_setVm hvm h2
  exact ⟨c, k', i, f, a, cell, by rw [hvm.findClass]; exact h1, hi', h3, by rw [he]; exact h4, h5, h6, h7, h8, by rw [he]; exact h9, h10⟩
theorem vx_L.kept {C n d : String} {A : Nat → Prop} {U : State} {H H1 : Heap} (h : vx_L C n d A U H) (hq : ∀ a : Nat, a < H.size → ¬ A a → H1[a]? = H[a]?) : vx_L C n d A U H1 := by
  obtain ⟨c, k, i, f, a, cell, h1, h2, h3, h4, h5, h6, h7, h8, h9, h10⟩ := h
  exact ⟨c, k, i, f, a, cell, h1, h2, h3, h4, by rw [hq a (Array.getElem?_eq_some_iff.mp h5).1 h10]; exact h5, h6, h7, h8, h9, h10⟩
theorem vx_L.narrow {C n d : String} {A B : Nat → Prop} {U : State} {H : Heap} (h : vx_L C n d A U H) (hAB : ∀ q, B q → A q) : vx_L C n d B U H := by
  obtain ⟨c, k, i, f, a, cell, h1, h2, h3, h4, h5, h6, h7, h8, h9, h10⟩ := h
  exact ⟨c, k, i, f, a, cell, h1, h2, h3, h4, h5, h6, h7, h8, h9, fun z => h10 (hAB _ z)⟩
theorem vx_L.word {C n d : String} {A : Nat → Prop} {s : State} {args : Array Value} (h : vx_L C n d A s s.heap) : (Cond.laysStatic C n d).before args s = true := by
  obtain ⟨c, k, i, f, a, cell, h1, h2, h3, h4, h5, h6, h7, h8, h9, -⟩ := h
  show (Cond.laysStatic C n d).holds args s none s [] = true
  exact Cond.laysStatic_of h1 h2 h3 h4 h5 h6 h7 h8 h9
/-- .. and what it holds: null or some reference -/
def vx_Zq (C n d : String) (A : Nat → Prop) (U : State) (H : Heap) : Prop := va_Zq C n d A U H ∧ vx_L C n d A U H
theorem vx_Zq.moved {C n d : String} {A : Nat → Prop} {u U : State} {H : Heap} (hvm : u.vm.Alike U.vm) (h : vx_Zq C n d A u H) : vx_Zq C n d A U H := ⟨va_Zq.moved hvm h.1, vx_L.moved hvm h.2⟩
theorem vx_Zq.kept {C n d : String} {A : Nat → Prop} {U : State} {H H1 : Heap} (h : vx_Zq C n d A U H) (hq : ∀ a : Nat, a < H.size → ¬ A a → H1[a]? = H[a]?) : vx_Zq C n d A U H1 := ⟨va_Zq.kept h.1 hq, vx_L.kept h.2 hq⟩
theorem vx_Zq.narrow {C n d : String} {A B : Nat → Prop} {U : State} {H : Heap} (h : vx_Zq C n d A U H) (hAB : ∀ q, B q → A q) : vx_Zq C n d B U H := ⟨va_Zq.narrow h.1 hAB, vx_L.narrow h.2 hAB⟩
theorem vx_Zqof {args : Array Value} {s : State} {C n d : String} {A : Nat → Prop} (hl : (Cond.laysStatic C n d).before args s = true) (hini : (Cond.initialized C).before args s = true) (h : (Cond.isRef (.static C n d)).before args s = true) (hA : ∀ a : Nat, a < s.heap.size → ¬ A a) : vx_Zq C n d A s s.heap := by
  refine ⟨va_Zqof hl hini h hA, ?_⟩
  obtain ⟨c, k, i, f, a, cell, h1, h2, h3, h4, h5, h6, h7, h8, h9⟩ := Cond.laysStatic_spec hl
  exact ⟨c, k, i, f, a, cell, h1, h2, h3, h4, h5, h6, h7, h8, h9, hA a (Array.getElem?_eq_some_iff.mp h5).1⟩
theorem vx_isRef {C n d : String} {v : Value} {A : Nat → Prop} {s : State} {args : Array Value} (h : va_Z C n d v A s s.heap) (hv : v.isRef = true) : (Cond.isRef (.static C n d)).before args s = true := by
  obtain ⟨cf, kf, fi, f, a, cell, h1, h2, h3, h4, h5, h6, h7, -⟩ := h
  have he : (Term.static C n d).eval args s none [] s = some v := by
    simp [Term.eval, State.fieldNamed?, h1, h2, h4, h5, h6, h7]
  simp only [Cond.before, Cond.holds, Cond.value, he]
  cases v <;> simp_all [Value.isRef]
theorem vx_isRefq {C n d : String} {A : Nat → Prop} {s : State} {args : Array Value} (h : va_Zq C n d A s s.heap) : (Cond.isRef (.static C n d)).before args s = true := by
  rcases h with h | ⟨t, h⟩
  · exact vx_isRef h rfl
  · exact vx_isRef h rfl
/-- the same frame, seen from here: as if the method were called anew in this heap -/
theorem vx_rebase {T : State} (X : Stand p l e R s m args below meth c T locs cells slots) {R' : Room} (hf : R'.frames ≤ R.frames) (hl : R'.locals ≤ R.locals) (hc : cells + R'.cells ≤ R.cells) (hs : slots + R'.slots ≤ R.slots) :
    Stand p l e R' ((T.setVm s.vm).setFrames (.invoking m args :: below)) m args below meth c T [] 0 0 := by
  have htop : (T.setVm s.vm).topJava?.isSome := X.here.top
  have hF : ((T.setVm s.vm).setFrames (.invoking m args :: below)).frames = .invoking m args :: below := State.frames_setFrames _ (State.cur_lt_of_top htop)
  obtain ⟨g₀, hg0⟩ := Option.isSome_iff_exists.mp htop
  obtain ⟨r, hr⟩ := State.topJava?_eq_some.mp hg0
  have hl9 : e.platform.stackLimits (T.setVm s.vm).me = e.platform.stackLimits s.me := X.limits
  have hb9 : (T.setVm s.vm).me.stackBytes = s.me.stackBytes := X.bytes
  refine ⟨X.admits, X.cas, X.clock, hF, ?_, X.hears, X.method, X.code, X.here, X.tail, X.warmed, ?_, ?_, ?_⟩
  · have h := X.room
    have hU : ((T.setVm s.vm).setFrames (.invoking m args :: below)).localsInUse = s.localsInUse := by
      rw [State.localsInUse_invoking hF (meth := meth) (c := c) X.method X.code, State.localsInUse_invoking X.frames X.method X.code]
    simp only [State.hasRoom, Bool.and_eq_true, decide_eq_true_eq] at h ⊢
    obtain ⟨⟨⟨⟨h1, h2, h3, h4, h5, h6⟩, h7⟩, h8⟩, h9⟩ := h
    rw [X.frames, List.length_cons] at h2 h3
    have q1 := X.heapSize
    have q2 := X.used
    simp only [hF, hU, List.length_cons, State.stackLimits_setFrames, State.stackBytes_setFrames, hl9, hb9]
    refine ⟨⟨⟨⟨by omega, by omega, by omega, by omega, by omega, h6⟩, ?_⟩, ?_⟩, X.book⟩
    · show T.heap.size + R'.cells ≤ e.platform.maxCells
      omega
    · show T.slotsUsed + R'.slots ≤ e.platform.maxSlots
      omega
  · rw [State.stackLimits_setFrames]; rfl
  · rw [State.stackBytes_setFrames]; rfl
  · refine ⟨?_, Nat.le_refl _, Nat.le_refl _, ?_, ?_, fun a c9 h9 => ⟨c9, h9, rfl, rfl, fun _ _ => rfl⟩⟩
    · obtain ⟨t, ht, -⟩ := State.frames_cons hr
      show T.setVm s.vm = { ((T.setVm s.vm).setFrames (.invoking m args :: below)).setFrames (T.setVm s.vm).frames with heap := T.heap, slotsUsed := T.slotsUsed }
      rw [State.setFrames_setFrames, State.setFrames_self ht]
      rfl
    · show T.slotsUsed = T.slotsUsed + ((T.heap.toList.drop T.heap.size).map (·.slots.size)).sum
      rw [List.drop_eq_nil_of_le (Nat.le_of_eq Array.length_toList)]
      rfl
    · show ((T.heap.toList.drop T.heap.size).map (·.slots.size)).sum ≤ 0
      rw [List.drop_eq_nil_of_le (Nat.le_of_eq Array.length_toList)]
      exact Nat.le_refl _
/-- 'throw new E()': new; dup; invokespecial; athrow -/
theorem vx_throw0 {cc : ByteArray} {pc : Nat} (hexec : p.tables.exec = Jvm.exec) (hb : c.code = cc) (hl : l.stackTraces = false) {own cls : String} {names : List String} {ik ic mc ms : Nat} {A : Nat → Prop}
    (hown : s.vm.findClass own = some m.cls) (hcls : Bundle.fit cls = true) (hnames : ∀ n ∈ names, Bundle.fit n = true)
    (hk : (Cond.classLink own ik cls).before args s = true) (hini : (Cond.initialized cls).before args s = true) (hat : ∀ w ∈ vx_at0 own ic cls names, w.before args s = true)
    (hgood : ∀ w ∈ Cond.classLink own ik cls :: Cond.initialized cls :: vx_at0 own ic cls names, vx_ot w = true)
    (hU : vx_Zq Bundle.tN "UNASSIGNED_STACK" Bundle.steD A s s.heap) (hN : vx_Zq Bundle.tN "SUPPRESSED_SENTINEL" Bundle.listD A s s.heap) (hS : va_S A s.heap H locs) (hsize : ls.size = c.maxLocals)
    (d0 : decode cc pc = .ok (.new ik, 3)) (d3 : decode cc (pc + 3) = .ok (.dup, 1)) (d4 : decode cc (pc + 4) = .ok (.invokespecial ic, 3)) (d7 : decode cc (pc + 7) = .ok (.athrow, 1))
    (hout : ∀ x ∈ c.exceptionTable.toList, covers x (pc + 7) = false)
    (hRframes : names.length + 3 < R.frames) (hRlocals : (rest.map fun v => v.category).sum + (13 * (names.length + 1) + 42) ≤ R.locals) (hRcells : cells + 1 ≤ R.cells) (hRslots : slots + 6 ≤ R.slots) (hlocks : meth.locks = false)
    (hx : ∀ t : State, s.vm.Alike t.vm → H.size ≤ t.heap.size → (∀ q : Nat, q < H.size → t.heap[q]? = H[q]?) → XC cls s t)
    (hf : ∀ z ∈ locs, free z.base) (hc : cells + 1 ≤ mc) (hs : slots + 6 ≤ ms) :
    W p l e R s m args below meth c H locs cells slots (vx_MQ below Qc XC args s mc ms free) (F0 m pc ls rest) := by
  intro T hT X
  have htr : e.platform.stackTraces = false := (show e.platform.stackTraces = l.stackTraces by rw [X.admits.platform]).trans hl
  have Y := vx_rebase X (R' := { frames := R.frames, locals := R.locals, cells := 1, slots := 6 }) (Nat.le_refl _) (Nat.le_refl _) hRcells hRslots
  obtain ⟨s', hA⟩ : ∃ z, z = (T.setVm s.vm).setFrames (.invoking m args :: below) := ⟨_, rfl⟩
  rw [← hA] at Y
  have hvm : s'.vm = s.vm := by rw [hA]; rfl
  have hhp : s'.heap = H := by rw [hA]; exact hT
  have hW0 : s.WarmedH s'.vm := by rw [hvm]; exact State.WarmedH.refl s
  have hat' : ∀ w ∈ vx_at0 own ic cls names, w.before args s' = true := fun w hw => vx_ot_at hW0 hvm.symm (hgood w (List.mem_cons_of_mem _ (List.mem_cons_of_mem _ hw))) (hat w hw)
  have hk' : (Cond.classLink own ik cls).before args s' = true := vx_ot_at hW0 hvm.symm (hgood _ List.mem_cons_self) hk
  have hini' : (Cond.initialized cls).before args s' = true := vx_ot_at hW0 hvm.symm (hgood _ (List.mem_cons_of_mem _ List.mem_cons_self)) hini
  have hU' : vx_Zq Bundle.tN "UNASSIGNED_STACK" Bundle.steD A s' s'.heap := by rw [hhp]; exact vx_Zq.moved hW0.alike (hU.kept hS.2.1)
  have hN' : vx_Zq Bundle.tN "SUPPRESSED_SENTINEL" Bundle.listD A s' s'.heap := by rw [hhp]; exact vx_Zq.moved hW0.alike (hN.kept hS.2.1)
  have h : ∀ w ∈ Bundle.ownAtoms0 own ic cls names, w.before args s' = true := vx_own hat' (vx_isRefq hU'.1) (vx_isRefq hN'.1) hU'.2.word hN'.2.word
  have hown' : s'.vm.findClass own = some m.cls := by rw [hvm]; exact hown
  have hins : (Cond.instantiable cls 6).before args s' = true := h _ (by simp [Bundle.ownAtoms0])
  obtain ⟨vm₁, cX, kX, hfX, hkX, -, -, X₁, st1⟩ := Y.newCold hexec (own := own) (C := cls) (index := ik) (n := 6) hown' hk' hins hini'
    (g := F0 m pc ls rest) rfl (by rw [hb]; exact d0) (Nat.le_refl _) (Nat.le_refl _)
  generalize hT1 : (T.setVm vm₁).pushCell { cls := cX, slots := kX.instanceTypes.map defaultValue, vm := .none } = T1 at X₁ st1
  have hcat : (Value.ref T.heap.size).category = 1 := rfl
  have hcellA : T1.heap[T.heap.size]? = some (freshCell cX kX) := by rw [← hT1]; exact State.heap_pushCell_size _ _
  have d3' : decode c.code (pc + 3) = .ok (.dup, 1) := by rw [hb]; exact d3
  obtain ⟨U, hsteps, hrun, hend, hW, hsame, ce, hce, hO⟩ := X₁.ctorThrow0 hexec htr (own := own) (cls := cls) (names := names) (ic := ic) hown' hcls hnames h (fun x hx => nomatch hx) hfX hkX hcellA (by rw [hhp, hT]; exact Nat.le_refl _)
    (g := { method := m, pc := pc + 4, locals := ls, stack := .ref T.heap.size :: .ref T.heap.size :: rest, locked := none }) rfl hsize rfl rfl (rest := rest) rfl
    (by rw [hb]; exact d4) (by rw [hb]; exact d7) hout hRframes (by simp only [List.map_cons, List.sum_cons, hcat]; omega) hlocks
  obtain ⟨f1, f2⟩ := vx_frame hsame
  rw [hhp] at f1 f2
  have hWs : s.WarmedH U.vm := State.WarmedH.trans hW0 hW
  have hcl : s.vm.findClass cls = some ce.cls := by
    have h9 := hO.cls
    rw [hvm] at h9
    exact h9
  have hall : s.sameButNew ({ U with vm := s.vm } : State) locs mc ms := by
    subst hA
    obtain ⟨e1, e2⟩ := hsame
    rw [State.setFrames_setFrames] at e1
    have h2 : (T.setVm s.vm).sameButNew ({ U with vm := s.vm } : State) [] (0 + 1) (0 + 6) := ⟨e1, e2⟩
    have h3 := X.same.trans h2
    rw [List.append_nil] at h3
    exact h3.mono hc hs
  refine ⟨U, ?_, .threw T.heap.size, hrun, hend, Or.inr ⟨T.heap.size, rfl, cls, ce, locs, hx U hWs.alike f1 (fun q hq => f2 q hq (fun z hz => nomatch hz)), hce, hO.vm, hcl, hWs, hall, hf⟩⟩
  refine st1 _ ?_
  show Steps p.tables e below (T1.setTop { method := m, pc := pc + 3, locals := ls, stack := .ref T.heap.size :: rest, locked := none }) _
  jvm_step X₁.here [X₁.here.top, hexec, d3', Value.category]
  exact hsteps
/-- 'throw new E("text")': new; dup; ldc; invokespecial; athrow -/
theorem vx_throwS {cc : ByteArray} {pc : Nat} (hexec : p.tables.exec = Jvm.exec) (hb : c.code = cc) (hl : l.stackTraces = false) {own cls text : String} {names : List String} {ik is ic mc ms sa : Nat} {A : Nat → Prop}
    (hown : s.vm.findClass own = some m.cls) (hcls : Bundle.fit cls = true) (hnames : ∀ n ∈ names, Bundle.fit n = true)
    (hk : (Cond.classLink own ik cls).before args s = true) (hini : (Cond.initialized cls).before args s = true) (hstr : vk_R own is text sa s) (hat : ∀ w ∈ vx_atS own ic cls names, w.before args s = true)
    (hgood : ∀ w ∈ Cond.classLink own ik cls :: Cond.initialized cls :: vx_atS own ic cls names, vx_ot w = true)
    (hU : vx_Zq Bundle.tN "UNASSIGNED_STACK" Bundle.steD A s s.heap) (hN : vx_Zq Bundle.tN "SUPPRESSED_SENTINEL" Bundle.listD A s s.heap) (hS : va_S A s.heap H locs) (hsize : ls.size = c.maxLocals)
    (d0 : decode cc pc = .ok (.new ik, 3)) (d3 : decode cc (pc + 3) = .ok (.dup, 1)) (d4 : decode cc (pc + 4) = .ok (.ldc is, 2)) (d6 : decode cc (pc + 6) = .ok (.invokespecial ic, 3)) (d9 : decode cc (pc + 9) = .ok (.athrow, 1))
    (hout : ∀ x ∈ c.exceptionTable.toList, covers x (pc + 9) = false)
    (hRframes : names.length + 3 < R.frames) (hRlocals : (rest.map fun v => v.category).sum + (13 * (names.length + 1) + 43) ≤ R.locals) (hRcells : cells + 1 ≤ R.cells) (hRslots : slots + 6 ≤ R.slots) (hlocks : meth.locks = false)
    (hx : ∀ t : State, s.vm.Alike t.vm → H.size ≤ t.heap.size → (∀ q : Nat, q < H.size → t.heap[q]? = H[q]?) → XC cls s t)
    (hf : ∀ z ∈ locs, free z.base) (hc : cells + 1 ≤ mc) (hs : slots + 6 ≤ ms) :
    W p l e R s m args below meth c H locs cells slots (vx_MQ below Qc XC args s mc ms free) (F0 m pc ls rest) := by
  intro T hT X
  have htr : e.platform.stackTraces = false := (show e.platform.stackTraces = l.stackTraces by rw [X.admits.platform]).trans hl
  have Y := vx_rebase X (R' := { frames := R.frames, locals := R.locals, cells := 1, slots := 6 }) (Nat.le_refl _) (Nat.le_refl _) hRcells hRslots
  obtain ⟨s', hA⟩ : ∃ z, z = (T.setVm s.vm).setFrames (.invoking m args :: below) := ⟨_, rfl⟩
  rw [← hA] at Y
  have hvm : s'.vm = s.vm := by rw [hA]; rfl
  have hhp : s'.heap = H := by rw [hA]; exact hT
  have hW0 : s.WarmedH s'.vm := by rw [hvm]; exact State.WarmedH.refl s
  have hat' : ∀ w ∈ vx_atS own ic cls names, w.before args s' = true := fun w hw => vx_ot_at hW0 hvm.symm (hgood w (List.mem_cons_of_mem _ (List.mem_cons_of_mem _ hw))) (hat w hw)
  have hk' : (Cond.classLink own ik cls).before args s' = true := vx_ot_at hW0 hvm.symm (hgood _ List.mem_cons_self) hk
  have hini' : (Cond.initialized cls).before args s' = true := vx_ot_at hW0 hvm.symm (hgood _ (List.mem_cons_of_mem _ List.mem_cons_self)) hini
  have hU' : vx_Zq Bundle.tN "UNASSIGNED_STACK" Bundle.steD A s' s'.heap := by rw [hhp]; exact vx_Zq.moved hW0.alike (hU.kept hS.2.1)
  have hN' : vx_Zq Bundle.tN "SUPPRESSED_SENTINEL" Bundle.listD A s' s'.heap := by rw [hhp]; exact vx_Zq.moved hW0.alike (hN.kept hS.2.1)
  have h : ∀ w ∈ Bundle.ownAtoms own ic cls names, w.before args s' = true := vx_own hat' (vx_isRefq hU'.1) (vx_isRefq hN'.1) hU'.2.word hN'.2.word
  have hown' : s'.vm.findClass own = some m.cls := by rw [hvm]; exact hown
  have hins : (Cond.instantiable cls 6).before args s' = true := h _ (by simp [Bundle.ownAtoms])
  obtain ⟨vm₁, cX, kX, hfX, hkX, -, -, X₁, st1⟩ := Y.newCold hexec (own := own) (C := cls) (index := ik) (n := 6) hown' hk' hins hini'
    (g := F0 m pc ls rest) rfl (by rw [hb]; exact d0) (Nat.le_refl _) (Nat.le_refl _)
  generalize hT1 : (T.setVm vm₁).pushCell { cls := cX, slots := kX.instanceTypes.map defaultValue, vm := .none } = T1 at X₁ st1
  have hcat : (Value.ref T.heap.size).category = 1 := rfl
  have hcellA : T1.heap[T.heap.size]? = some (freshCell cX kX) := by rw [← hT1]; exact State.heap_pushCell_size _ _
  have d3' : decode c.code (pc + 3) = .ok (.dup, 1) := by rw [hb]; exact d3
  have d4' : decode c.code (pc + 4) = .ok (.ldc is, 2) := by rw [hb]; exact d4
  have hstr' : vk_R own is text sa s' := vk_R.warm hW0 hstr
  obtain ⟨U, hsteps, hrun, hend, hW, hsame, ce, hce, hO⟩ := X₁.ctorThrowS hexec htr (own := own) (cls := cls) (names := names) (ic := ic) hown' hcls hnames h (fun x hx => nomatch hx) hfX hkX hcellA (by rw [hhp, hT]; exact Nat.le_refl _) (msg := .ref sa) rfl
    (g := { method := m, pc := pc + 6, locals := ls, stack := .ref sa :: .ref T.heap.size :: .ref T.heap.size :: rest, locked := none }) rfl hsize rfl rfl (rest := rest) rfl
    (by rw [hb]; exact d6) (by rw [hb]; exact d9) hout hRframes (by simp only [List.map_cons, List.sum_cons, hcat]; omega) hlocks
  obtain ⟨f1, f2⟩ := vx_frame hsame
  rw [hhp] at f1 f2
  have hWs : s.WarmedH U.vm := State.WarmedH.trans hW0 hW
  have hcl : s.vm.findClass cls = some ce.cls := by
    have h9 := hO.cls
    rw [hvm] at h9
    exact h9
  have hall : s.sameButNew ({ U with vm := s.vm } : State) locs mc ms := by
    subst hA
    obtain ⟨e1, e2⟩ := hsame
    rw [State.setFrames_setFrames] at e1
    have h2 : (T.setVm s.vm).sameButNew ({ U with vm := s.vm } : State) [] (0 + 1) (0 + 6) := ⟨e1, e2⟩
    have h3 := X.same.trans h2
    rw [List.append_nil] at h3
    exact h3.mono hc hs
  refine ⟨U, ?_, .threw T.heap.size, hrun, hend, Or.inr ⟨T.heap.size, rfl, cls, ce, locs, hx U hWs.alike f1 (fun q hq => f2 q hq (fun z hz => nomatch hz)), hce, hO.vm, hcl, hWs, hall, hf⟩⟩
  refine st1 _ ?_
  show Steps p.tables e below (T1.setTop { method := m, pc := pc + 3, locals := ls, stack := .ref T.heap.size :: rest, locked := none }) _
  jvm_step X₁.here [X₁.here.top, hexec, d3', Value.category]
  exact X₁.ldcString hexec (own := own) (text := text) (index := is) (a := sa) hown' hstr'.1 hstr'.2
    (g := { method := m, pc := pc + 4, locals := ls, stack := .ref T.heap.size :: .ref T.heap.size :: rest, locked := none }) rfl d4' _ hsteps
/-- 'throw new E("text")', the text by a wide index -/
theorem vx_throwSW {cc : ByteArray} {pc : Nat} (hexec : p.tables.exec = Jvm.exec) (hb : c.code = cc) (hl : l.stackTraces = false) {own cls text : String} {names : List String} {ik is ic mc ms sa : Nat} {A : Nat → Prop}
    (hown : s.vm.findClass own = some m.cls) (hcls : Bundle.fit cls = true) (hnames : ∀ n ∈ names, Bundle.fit n = true)
    (hk : (Cond.classLink own ik cls).before args s = true) (hini : (Cond.initialized cls).before args s = true) (hstr : vk_R own is text sa s) (hat : ∀ w ∈ vx_atS own ic cls names, w.before args s = true)
    (hgood : ∀ w ∈ Cond.classLink own ik cls :: Cond.initialized cls :: vx_atS own ic cls names, vx_ot w = true)
    (hU : vx_Zq Bundle.tN "UNASSIGNED_STACK" Bundle.steD A s s.heap) (hN : vx_Zq Bundle.tN "SUPPRESSED_SENTINEL" Bundle.listD A s s.heap) (hS : va_S A s.heap H locs) (hsize : ls.size = c.maxLocals)
    (d0 : decode cc pc = .ok (.new ik, 3)) (d3 : decode cc (pc + 3) = .ok (.dup, 1)) (d4 : decode cc (pc + 4) = .ok (.ldc_w is, 3)) (d7 : decode cc (pc + 7) = .ok (.invokespecial ic, 3)) (d10 : decode cc (pc + 10) = .ok (.athrow, 1))
    (hout : ∀ x ∈ c.exceptionTable.toList, covers x (pc + 10) = false)
    (hRframes : names.length + 3 < R.frames) (hRlocals : (rest.map fun v => v.category).sum + (13 * (names.length + 1) + 43) ≤ R.locals) (hRcells : cells + 1 ≤ R.cells) (hRslots : slots + 6 ≤ R.slots) (hlocks : meth.locks = false)
    (hx : ∀ t : State, s.vm.Alike t.vm → H.size ≤ t.heap.size → (∀ q : Nat, q < H.size → t.heap[q]? = H[q]?) → XC cls s t)
    (hf : ∀ z ∈ locs, free z.base) (hc : cells + 1 ≤ mc) (hs : slots + 6 ≤ ms) :
    W p l e R s m args below meth c H locs cells slots (vx_MQ below Qc XC args s mc ms free) (F0 m pc ls rest) := by
  intro T hT X
  have htr : e.platform.stackTraces = false := (show e.platform.stackTraces = l.stackTraces by rw [X.admits.platform]).trans hl
  have Y := vx_rebase X (R' := { frames := R.frames, locals := R.locals, cells := 1, slots := 6 }) (Nat.le_refl _) (Nat.le_refl _) hRcells hRslots
  obtain ⟨s', hA⟩ : ∃ z, z = (T.setVm s.vm).setFrames (.invoking m args :: below) := ⟨_, rfl⟩
  rw [← hA] at Y
  have hvm : s'.vm = s.vm := by rw [hA]; rfl
  have hhp : s'.heap = H := by rw [hA]; exact hT
  have hW0 : s.WarmedH s'.vm := by rw [hvm]; exact State.WarmedH.refl s
  have hat' : ∀ w ∈ vx_atS own ic cls names, w.before args s' = true := fun w hw => vx_ot_at hW0 hvm.symm (hgood w (List.mem_cons_of_mem _ (List.mem_cons_of_mem _ hw))) (hat w hw)
  have hk' : (Cond.classLink own ik cls).before args s' = true := vx_ot_at hW0 hvm.symm (hgood _ List.mem_cons_self) hk
  have hini' : (Cond.initialized cls).before args s' = true := vx_ot_at hW0 hvm.symm (hgood _ (List.mem_cons_of_mem _ List.mem_cons_self)) hini
  have hU' : vx_Zq Bundle.tN "UNASSIGNED_STACK" Bundle.steD A s' s'.heap := by rw [hhp]; exact vx_Zq.moved hW0.alike (hU.kept hS.2.1)
  have hN' : vx_Zq Bundle.tN "SUPPRESSED_SENTINEL" Bundle.listD A s' s'.heap := by rw [hhp]; exact vx_Zq.moved hW0.alike (hN.kept hS.2.1)
  have h : ∀ w ∈ Bundle.ownAtoms own ic cls names, w.before args s' = true := vx_own hat' (vx_isRefq hU'.1) (vx_isRefq hN'.1) hU'.2.word hN'.2.word
  have hown' : s'.vm.findClass own = some m.cls := by rw [hvm]; exact hown
  have hins : (Cond.instantiable cls 6).before args s' = true := h _ (by simp [Bundle.ownAtoms])
  obtain ⟨vm₁, cX, kX, hfX, hkX, -, -, X₁, st1⟩ := Y.newCold hexec (own := own) (C := cls) (index := ik) (n := 6) hown' hk' hins hini'
    (g := F0 m pc ls rest) rfl (by rw [hb]; exact d0) (Nat.le_refl _) (Nat.le_refl _)
  generalize hT1 : (T.setVm vm₁).pushCell { cls := cX, slots := kX.instanceTypes.map defaultValue, vm := .none } = T1 at X₁ st1
  have hcat : (Value.ref T.heap.size).category = 1 := rfl
  have hcellA : T1.heap[T.heap.size]? = some (freshCell cX kX) := by rw [← hT1]; exact State.heap_pushCell_size _ _
  have d3' : decode c.code (pc + 3) = .ok (.dup, 1) := by rw [hb]; exact d3
  have d4' : decode c.code (pc + 4) = .ok (.ldc_w is, 3) := by rw [hb]; exact d4
  have hstr' : vk_R own is text sa s' := vk_R.warm hW0 hstr
  obtain ⟨U, hsteps, hrun, hend, hW, hsame, ce, hce, hO⟩ := X₁.ctorThrowS hexec htr (own := own) (cls := cls) (names := names) (ic := ic) hown' hcls hnames h (fun x hx => nomatch hx) hfX hkX hcellA (by rw [hhp, hT]; exact Nat.le_refl _) (msg := .ref sa) rfl
    (g := { method := m, pc := pc + 7, locals := ls, stack := .ref sa :: .ref T.heap.size :: .ref T.heap.size :: rest, locked := none }) rfl hsize rfl rfl (rest := rest) rfl
    (by rw [hb]; exact d7) (by rw [hb]; exact d10) hout hRframes (by simp only [List.map_cons, List.sum_cons, hcat]; omega) hlocks
  obtain ⟨f1, f2⟩ := vx_frame hsame
  rw [hhp] at f1 f2
  have hWs : s.WarmedH U.vm := State.WarmedH.trans hW0 hW
  have hcl : s.vm.findClass cls = some ce.cls := by
    have h9 := hO.cls
    rw [hvm] at h9
    exact h9
  have hall : s.sameButNew ({ U with vm := s.vm } : State) locs mc ms := by
    subst hA
    obtain ⟨e1, e2⟩ := hsame
    rw [State.setFrames_setFrames] at e1
    have h2 : (T.setVm s.vm).sameButNew ({ U with vm := s.vm } : State) [] (0 + 1) (0 + 6) := ⟨e1, e2⟩
    have h3 := X.same.trans h2
    rw [List.append_nil] at h3
    exact h3.mono hc hs
  refine ⟨U, ?_, .threw T.heap.size, hrun, hend, Or.inr ⟨T.heap.size, rfl, cls, ce, locs, hx U hWs.alike f1 (fun q hq => f2 q hq (fun z hz => nomatch hz)), hce, hO.vm, hcl, hWs, hall, hf⟩⟩
  refine st1 _ ?_
  show Steps p.tables e below (T1.setTop { method := m, pc := pc + 3, locals := ls, stack := .ref T.heap.size :: rest, locked := none }) _
  jvm_step X₁.here [X₁.here.top, hexec, d3', Value.category]
  exact X₁.ldcStringW hexec (own := own) (text := text) (index := is) (a := sa) hown' hstr'.1 hstr'.2
    (g := { method := m, pc := pc + 4, locals := ls, stack := .ref T.heap.size :: .ref T.heap.size :: rest, locked := none }) rfl d4' _ hsteps
end Ends
section Bodies
variable {l : Launch}
theorem vx_ofW {y : MethodName} {ws ws' : List Cond} {rm : Room} {Pc : Array Value → State → Prop} {Qc : Array Value → State → Outcome → State → Prop} {XC : String → State → State → Prop} {mc ms : Nat} {free : Addr → Prop} {cc : ByteArray} {maxL : Nat} {ret : Option FieldType}
    (hy : plainName y.cls = true) (hw : ws = Cond.code y cc maxL ret :: ws')
    (body : ∀ p e s m args below meth c s₁, BodyLoose p l y (headSpec ws rm) cc maxL ret e s m args below meth c s₁ → c.maxLocals = maxL → (∀ x ∈ c.exceptionTable.toList, False) → Pc args s →
      W p l e (headSpec ws rm).room s m args below meth c s.heap [] 0 0 (vx_MQ below Qc XC args s mc ms free) (entryFrame m args maxL)) : vx_Met l y ws rm Pc Qc XC mc ms free := by
  refine MetFree.of_bodyS (code := cc) (maxLocals := maxL) (ret := ret) hy ?_ ?_
  · intro args s m h hn
    obtain ⟨meth, c, h1, h2, h3, h4, h5, h6, -, -⟩ := Cond.code_spec hn (atoms_spec (ws := ws) h _ (by rw [hw]; exact List.mem_cons_self))
    exact ⟨meth, c, h1, h2, h3, h4, h5, h6⟩
  · intro p e s m args below meth c s₁ B hml hP _
    have hh0 : s₁.heap = s.heap := by rw [B.state]; rfl
    have ht : ∀ x ∈ c.exceptionTable.toList, False := by
      obtain ⟨meth9, c9, h1, h2, -, -, -, -, h7, -⟩ := Cond.code_spec B.named (atoms_spec (ws := ws) B.pre _ (by rw [hw]; exact List.mem_cons_self))
      cases Option.some.inj (h1.symm.trans B.method)
      cases Option.some.inj (h2.symm.trans (Stand.of_body B).code)
      intro x hx
      rw [Array.isEmpty_iff.mp h7] at hx
      cases hx
    obtain ⟨t, a1, o, b1, b2, b3⟩ := body p e s m args below meth c s₁ B hml ht hP s₁ hh0 (Stand.of_body B)
    exact ⟨t, o, a1, b1, b2, b3⟩
/-- the table of a body with handlers -/
theorem vx_table {p : Program} {x y : MethodName} {S : Spec} {cc bytes : ByteArray} {maxL maxL' : Nat} {ret ret' : Option FieldType} {e : Env} {s s₁ : State} {m : MethodId} {args : Array Value} {below : List Frame} {meth : Method} {c : Code} {hh : List (Nat × Nat × Nat × Nat)}
    (B : BodyLoose p l y S cc maxL ret e s m args below meth c s₁) (h : (Cond.codeWith y bytes maxL' ret' hh).before args s = true) : c.exceptionTable.toList = tableOf hh := by
  obtain ⟨m9, meth9, c9, hn9, h1, h2, -, -, h6, -⟩ := Cond.codeWith_spec h
  cases Option.some.inj (hn9.symm.trans B.named)
  cases Option.some.inj (h1.symm.trans B.method)
  cases Option.some.inj (h2.symm.trans (Stand.of_body B).code)
  rw [← h6, table_eq]
end Bodies
end VXA
/-! ===== END ===== -/
/-! ===== BEGIN a static call of a method with an exception table ===== -/
section VXS
variable {p : Program} {l : Launch} {e : Env} {R : Room} {s : State} {m : MethodId} {args : Array Value} {below : List Frame} {meth : Method} {c : Code} {T : State} {H : Heap} {locs : List Loc} {cells slots : Nat}
abbrev vx_CSW (R : Room) (s : State) (args : Array Value) (own : String) (index : Nat) (y : MethodName) (bytes : ByteArray) (maxL : Nat) (ret : Option FieldType) (hh : List (Nat × Nat × Nat × Nat)) (ws : List Cond) (rm : Room) (mc ms n : Nat) : Prop :=
  (rm.cells = mc ∧ rm.slots = ms ∧ rm.frames + 1 ≤ R.frames ∧ 8 + (maxL + 11) + rm.locals ≤ R.locals ∧ (∀ w ∈ ws, ∀ (a' : Array Value) (U : State), s.WarmedH U.vm → w.before a' U = true) ∧ Cond.codeWith y bytes maxL ret hh ∈ ws) ∧
  (Cond.codeWith y bytes maxL ret hh).before args s = true ∧ (Cond.initialized y.cls).before args s = true ∧ (y.cls ≠ "java/lang/invoke/MethodHandle" ∧ y.cls ≠ "java/lang/invoke/VarHandle") ∧
  (∀ sig, parseMethodDescriptor y.desc = some sig → n = sig.parameters.length) ∧ (Cond.methodLink own index y).before args s = true ∧ (Cond.static y).before args s = true
theorem vx_cwSW {own : String} {index maxL mc ms : Nat} {y : MethodName} {bytes : ByteArray} {ret : Option FieldType} {hh : List (Nat × Nat × Nat × Nat)} {Ts ws ws' : List Cond} {rm : Room} (n : Nat) (ht : ∀ w ∈ Ts, w.before args s = true) (hT : GoodIn Ts (va_wsS own index y ws)) (hw : ws = Cond.codeWith y bytes maxL ret hh :: ws') (hrc : rm.cells = mc) (hrs : rm.slots = ms)
    (hd : y.cls ≠ "java/lang/invoke/MethodHandle" ∧ y.cls ≠ "java/lang/invoke/VarHandle" ∧ (parseMethodDescriptor y.desc).map (fun d => d.parameters.length) = some n) (hR : rm.frames + 1 ≤ R.frames ∧ 8 + (maxL + 11) + rm.locals ≤ R.locals) :
    vx_CSW R s args own index y bytes maxL ret hh ws rm mc ms n := by
  have ok : ∀ w ∈ va_wsS own index y ws, w.before args s = true := fun w h => ht w (hT w h).1
  have hG : GoodIn Ts ws := fun w h => hT w (by unfold va_wsS; exact List.mem_append_right _ h)
  have hc : Cond.codeWith y bytes maxL ret hh ∈ ws := by rw [hw]; exact List.mem_cons_self
  refine ⟨⟨hrc, hrs, hR.1, hR.2, pay_in ht hG, hc⟩, ht _ (hG _ hc).1, ok _ (by simp [va_wsS]), ⟨hd.1, hd.2.1⟩, fun sig h => ?_, ok _ (by simp [va_wsS]), ok _ (by simp [va_wsS])⟩
  have h2 := hd.2.2
  rw [h] at h2
  exact (Option.some.inj h2).symm
theorem vx_callSW (X : Stand p l e R s m args below meth c T locs cells slots) (hexec : p.tables.exec = Jvm.exec) {own : String} {index : Nat} {y : MethodName} {bytes : ByteArray} {maxL : Nat} {ret : Option FieldType} {hh : List (Nat × Nat × Nat × Nat)}
    (hown : s.vm.findClass own = some m.cls) (hlink : (Cond.methodLink own index y).before args s = true) (hstat : (Cond.static y).before args s = true) (hinit : (Cond.initialized y.cls).before args s = true)
    (hcode : (Cond.codeWith y bytes maxL ret hh).before args s = true) (hy : y.cls ≠ "java/lang/invoke/MethodHandle" ∧ y.cls ≠ "java/lang/invoke/VarHandle")
    {W9 : Nat} {Pre : Pt → Array Value → Prop} {Post : Pt → Array Value → Option Value → Pt → Prop} (hK : Back l R p e below s args y 3 W9 Pre Post)
    {g : JFrame} (hg : g.method = m) (hsize : g.locals.size = c.maxLocals) {argsL rest : List Value} (hlen : ∀ sig, parseMethodDescriptor y.desc = some sig → argsL.length = sig.parameters.length)
    (hstack : g.stack = argsL.reverse ++ rest) (hW : 2 * g.monitorRoom + (rest.map fun v => v.category).sum ≤ W9) (hdg : decode c.code g.pc = .ok (.invokestatic index, 3))
    (hpre : ∀ vm₁, s.WarmedH vm₁ → Pre ⟨T.setVm vm₁, locs, cells, slots⟩ argsL.toArray) :
    ∃ (v : Option Value) (vm₁ : Vm) (B : Pt), s.WarmedH vm₁ ∧ Stand p l e R s m args below meth c B.U B.locs B.cells B.slots ∧ Post ⟨T.setVm vm₁, locs, cells, slots⟩ argsL.toArray v B ∧
      ∀ target, Steps p.tables e below (B.U.setTop { g with pc := g.pc + 3, stack := v.toList ++ rest }) target → Steps p.tables e below (T.setTop g) target := by
  obtain ⟨mk, methM, cM, hnamed, hmethM, -, -, -, -, -, -, hsigM⟩ := Cond.codeWith_spec hcode
  have hstatic : methM.isStatic = true := Cond.static_spec hnamed hmethM hstat
  obtain ⟨kP, hkP, -⟩ := className_of_methodNamed hnamed
  have hinitP : kP.init = .initialized := Cond.initialized_spec (findClass_of_methodNamed hnamed) hkP hinit
  obtain ⟨vm₁, X₁, hstep₁⟩ := X.invokestatic hexec hown hlink hnamed hmethM hstatic hkP hinitP hy (g := g) hg (argsL := argsL) (rest := rest) (hlen _ hsigM) hstack hdg
  obtain ⟨v, B, X', hpost, hsteps⟩ := hK m meth c ⟨T.setVm vm₁, locs, cells, slots⟩ { g with stack := rest } (.invokestatic index) mk argsL.toArray X₁ hg hsize hdg hW (X₁.named hnamed) (hpre vm₁ X₁.warmed)
  exact ⟨v, vm₁, B, X₁.warmed, X', hpost, fun target h => hstep₁ _ fun acts => by rw [doInvoke_state]; exact hsteps.trans h⟩
theorem vx_runSW {y : MethodName} {bytes cc : ByteArray} {maxL nL mc ms n index : Nat} {ret : Option FieldType} {hh : List (Nat × Nat × Nat × Nat)} {ws : List Cond} {rm : Room} {Pc : Array Value → State → Prop} {Qc : Array Value → State → Outcome → State → Prop} {free : Addr → Prop} {Ts : List Cond} {own : String} {As rest : List Value} {g : JFrame}
    (S : CallFix p m c cc nL s args Ts own) (hM : Met l y ws rm Pc Qc mc ms free) (cw : vx_CSW R s args own index y bytes maxL ret hh ws rm mc ms n) (hp : PreS s H Pc As)
    (hg : g.method = m) (hn : As.length = n) (hsize : g.locals.size = nL) (hstack : g.stack = As.reverse ++ rest) (hW : 2 * g.monitorRoom + (rest.map fun v => v.category).sum ≤ 8) (hdg : decode cc g.pc = .ok (.invokestatic index, 3)) (hf : cells + mc ≤ R.cells ∧ slots + ms ≤ R.slots) :
    va_Run p l e R s m args below meth c H locs cells slots mc ms g rest (Qc As.toArray) (free) := by
  obtain ⟨⟨hrc, hrs, hfr, hlo, hws, hcw⟩, hcode, hini, hy, hlen, hl, hstt⟩ := cw
  have hK : Back l R p e below s args y 3 8 (PreOf R mc ms Pc) (PostOf Qc mc ms free) := va_backW (hh := hh) (bytes := bytes) (maxL := maxL) (ret := ret) hM hp.1 hrc hrs hfr hlo hws hcw (fun a' U hW => word_at hW (Or.inl (by first | rfl | simp [Cond.onTables, Cond.keeps, Cond.steady])) hini)
  obtain ⟨hx, hb, hml, ho, -⟩ := S
  intro T hT X
  obtain ⟨v, vm₁, ⟨U', l2, c2, s2⟩, hW₁, X', ⟨g', mk, t, L, e1, e2, hq, h1, hL, h2, h3⟩, st⟩ := vx_callSW X hx (hh := hh) (bytes := bytes) (maxL := maxL) (ret := ret) ho hl hstt hini hcode hy hK hg (hsize.trans hml.symm) (argsL := As) (rest := rest) (fun sig h => hn.trans (hlen sig h)) hstack hW (by rw [hb]; exact hdg)
    (fun vm₁ hW₁ => ⟨hf.1, hf.2, hp.2 (T.setVm vm₁) hT hW₁⟩)
  dsimp only [Pt.U, Pt.locs, Pt.cells, Pt.slots] at X' e1 e2 h1 h2 h3 st
  subst h1; subst h2; subst h3
  exact ⟨v, (T.setVm vm₁).calling g' mk As.toArray, t, U', L, hT, X', hL, e1, e2, hq, st⟩
/-- not caught here, past rows that name other classes: it goes on to the caller -/
theorem vx_outP {p : Program} {l : Launch} {e : Env} {R : Room} {s : State} {m : MethodId} {args : Array Value} {below : List Frame} {meth : Method} {c : Code} {H : Heap} {locs : List Loc} {cells slots : Nat} {free : Addr → Prop} {ls : Array Slot} {rest : List Value} {Qc : Array Value → State → Outcome → State → Prop} {XC : String → State → State → Prop}
    {pc : Nat} {own E : String} {ce : Cell} {q : Addr} {mc ms : Nat} (hown : s.vm.findClass own = some m.cls) (hlocks : meth.locks = false)
    (hpass : ∀ z ∈ c.exceptionTable.toList, covers z pc = false ∨ (z.catchType ≠ 0 ∧ ∃ nm : String, (Cond.classLink own z.catchType nm).before args s = true ∧ va_Nc E nm s)) (hcell : H[q]? = some ce) (hv : ce.vm = .none) (hcl : s.vm.findClass E = some ce.cls)
    (hx : ∀ t : State, t.heap = H → s.vm.Alike t.vm → XC E s t) (hf : ∀ z ∈ locs, free z.base) (hc : cells ≤ mc) (hs : slots ≤ ms) :
    vx_W p l e R s m args below meth c H locs cells slots (vx_MQ below Qc XC args s mc ms free) (F0 m pc ls rest) q := by
  intro T hT X
  have hpl : e.platform.magicAccessors = ({} : Platform).magicAccessors := by rw [X.admits.platform]
  obtain ⟨vm', hW', X', st⟩ := X.outThrough hlocks q (g := F0 m pc ls rest) rfl rfl rfl (cell := ce) (by rw [hT]; exact hcell) (by rw [hv]; rfl)
    (by obtain ⟨k9, h9, -⟩ := Vm.findClass_spec hcl; exact ⟨k9, h9⟩) (fun z hz => by
      rcases hpass z hz with h | ⟨hz0, nm, hl1, hn1⟩
      · exact Or.inl h
      · obtain ⟨c6, hc6, hcl6⟩ := Cond.classLink_spec hown hl1 e.platform hpl
        obtain ⟨a8, b8, h1, h2, h3⟩ := hn1
        cases Option.some.inj (h1.symm.trans hcl)
        cases Option.some.inj (h2.symm.trans hc6)
        exact Or.inr ⟨hz0, _, hcl6, h3⟩)
  obtain ⟨g₀, hfr⟩ := X'.frames_eq
  have hcell9 : ((T.setVm vm').setFrames (.throwing q :: below)).heap[q]? = some ce := by
    show T.heap[q]? = some ce
    rw [hT]; exact hcell
  have hend : Ended ((T.setVm vm').setFrames (.throwing q :: below)) below (.threw q) := State.frames_setFrames _ (State.cur_lt_of_frames hfr)
  refine ⟨(T.setVm vm').setFrames (.throwing q :: below), ?_, .threw q, X'.here.running, hend, Or.inr ⟨q, rfl, E, ce, locs, hx _ hT (X'.ends _).1.alike, hcell9, hv, hcl, (X'.ends _).1, (X'.ends _).2.mono hc hs, hf⟩⟩
  rw [X.pushThrowing_eq]
  exact st
/-- a thing of a world lies in the heap -/
theorem vx_lt {D : va_G} {cl : List vw_C} {ws : va_W} {H1 : Heap} (h : va_P D cl ws H1) {k : Nat} {q : Nat × va_E} (hk : ws[k]? = some q) : q.1 < H1.size := (h k q hk).lt
end VXS
/-! ===== END ===== -/
/-! ===== BEGIN methods with a table of their own: called by a name, returning or throwing ===== -/
section VXH
/-! vx_backW, vx_callVX, vx_callSX, vx_callVW, vx_runVW, vx_runVX, vx_runSX, vx_ofWH follow the same proofs as their sisters above (Free/Laws.lean, Shelf42/LK1.lean); vx_outP calls Shelf42/NT130.lean (outThrough). -/
section
variable {l : Launch} {R : Room} {p : Program} {e : Env} {below : List Frame} {s : State} {sargs : Array Value} {y : MethodName} {len W9 : Nat}
theorem vx_backW {ws : List Cond} {rm : Room} {Pc : Array Value → State → Prop} {Qc : Array Value → State → Outcome → State → Prop} {XC : String → State → State → Prop} {mc ms : Nat} {free : Addr → Prop} {bytes : ByteArray} {maxL : Nat} {ret : Option FieldType} {hh : List (Nat × Nat × Nat × Nat)}
    (hM : vx_Met l y ws rm Pc Qc XC mc ms free) (hblind : FrameBlind Pc) (hrc : rm.cells = mc) (hrs : rm.slots = ms)
    (hframes : rm.frames + 1 ≤ R.frames) (hlocals : W9 + (maxL + 11) + rm.locals ≤ R.locals)
    (hws : ∀ w ∈ ws, ∀ a' U, s.WarmedH U.vm → w.before a' U = true) (hcode : Cond.codeWith y bytes maxL ret hh ∈ ws) (hinit : ∀ a' U, s.WarmedH U.vm → (Cond.initialized y.cls).before a' U = true) :
    vx_Back l R p e below s sargs y len W9 (PreOf R mc ms Pc) (PostOf Qc mc ms free) (vx_Post XC mc ms free) := by
  intro m meth c A g ig mk a X hg hsize hdg hW hn hp
  have h1 : (headSpec ws rm).pre.before a A.U = true := atoms_intro fun w hw => hws w hw _ _ X.warmed
  have h2 : (Cond.codeWith y bytes maxL ret hh).before a A.U = true := hws _ hcode _ _ X.warmed
  have h3 : (Cond.initialized y.cls).before a A.U = true := hinit _ _ X.warmed
  have h4 : A.cells + (headSpec ws rm).room.cells ≤ R.cells := by rw [show (headSpec ws rm).room.cells = mc from hrc]; exact hp.1
  have h5 : A.slots + (headSpec ws rm).room.slots ≤ R.slots := by rw [show (headSpec ws rm).room.slots = ms from hrs]; exact hp.2.1
  have hPc : Pc a (A.U.calling g mk a) := hblind _ _ _ _ hp.2.2
  obtain ⟨U, Ls, c0, s0⟩ := A
  dsimp only [Pt.U, Pt.locs, Pt.cells, Pt.slots] at h1 h2 h3 h4 h5 X hn hPc ⊢
  obtain ⟨m9, methY, cY, hn9, hmY, hcY, -, hlY, -⟩ := Cond.codeWith_spec h2
  cases Option.some.inj (hn9.symm.trans hn)
  obtain ⟨kY, hkY, -⟩ := className_of_methodNamed hn
  have hinitY : kY.init = .initialized := Cond.initialized_spec (findClass_of_methodNamed hn) hkY h3
  have h : At U g.method c below := by rw [hg]; exact X.here
  have hlocals9 : W9 + (maxL + 11) + (headSpec ws rm).room.locals ≤ R.locals := hlocals
  have happ : (headSpec ws rm).appliesLoose y e.platform (U.calling g mk a) = true :=
    Spec.appliesLoose_calling (g := g) h hdg hn hkY hinitY
      (X.room_calling (g := g) (R' := (headSpec ws rm).room) hsize hmY hcY hframes (by rw [hlY]; omega) h4 h5) h1
  obtain ⟨mid, hmid⟩ := h.above
  have hfr : (U.setTop g).frames = (.java g :: mid) ++ below := by rw [State.frames_setTop' g h.top, hmid]; rfl
  obtain ⟨o, s₂, hsteps, -, hend, hq⟩ := Steps.callFree hM p X.admits X.cas X.clock (acts := []) hfr happ hPc trivial
  have hq' : vx_Q Qc XC mc ms free a (U.calling g mk a) o s₂ := hq
  rw [State.frames_setTop' g h.top] at hend
  obtain ⟨g₀, hg0⟩ := Option.isSome_iff_exists.mp h.top
  obtain ⟨r, hr⟩ := State.topJava?_eq_some.mp hg0
  have hr' : (({ U with heap := s₂.heap, slotsUsed := s₂.slotsUsed } : State).setVm s₂.vm).frames = .java g₀ :: r := hr
  rcases hq' with ⟨hqc, L, hfe, hL⟩ | ⟨q, rfl, E, ce, L, hx, hce, hcv, hcl, hW₂, hsm, hL⟩
  · obtain ⟨⟨v, rfl⟩, hW₂, e2, q2, q3, q4, q5, q6⟩ := id hfe
    have e3 : s₂ = ({ (U.calling g mk a).setFrames s₂.frames with heap := s₂.heap, slotsUsed := s₂.slotsUsed } : State).setVm s₂.vm := by
      have : s₂ = ({ s₂ with vm := (U.calling g mk a).vm } : State).setVm s₂.vm := rfl
      rw [e2] at this
      exact this
    obtain ⟨c₂, i₂, len₂, hc₂, hd₂, hf₂⟩ := hend
    have hW' : U.WarmedH s₂.vm := hW₂
    have hcc : c₂ = c := by
      have h1 : s₂.code? g.method = U.code? g.method := by
        rw [State.code?_eq, State.code?_eq, hW'.alike.method?]
      exact Option.some.inj (hc₂.symm.trans (h1.trans h.code))
    subst hcc
    have hlen : len₂ = len := by rw [hdg] at hd₂; cases hd₂; rfl
    subst hlen
    have hs₂ : s₂ = (({ U with heap := s₂.heap, slotsUsed := s₂.slotsUsed } : State).setVm s₂.vm).setTop { g with pc := g.pc + len₂, stack := v.toList ++ g.stack } := by
      refine e3.trans ?_
      rw [hf₂, State.calling_eq h.top, State.setFrames_setFrames, State.setTop_of_frames _ hr', hr]
      rfl
    have hsame : U.sameButNew ({ U with heap := s₂.heap, slotsUsed := s₂.slotsUsed } : State) L mc ms := by
      refine ⟨?_, q2, q3, q4, q5, q6⟩
      obtain ⟨t, ht, -⟩ := State.frames_cons hr
      show ({ U with heap := s₂.heap, slotsUsed := s₂.slotsUsed } : State) = { U.setFrames U.frames with heap := s₂.heap, slotsUsed := s₂.slotsUsed }
      rw [State.setFrames_self ht]
    subst hg
    refine Or.inl ⟨v, ⟨(({ U with heap := s₂.heap, slotsUsed := s₂.slotsUsed } : State).setVm s₂.vm), Ls ++ L, c0 + mc, s0 + ms⟩,
      ⟨X.admits, X.cas, X.clock, X.frames, X.room, X.hears, X.method, X.code, (X.here.setHeapUsed s₂.heap s₂.slotsUsed).setVm hW'.alike, X.tail, State.WarmedH.trans X.warmed hW', X.limits, X.bytes, X.same.trans (hsame.setVm s.vm)⟩,
      ⟨g, mk, s₂, L, rfl, rfl, hqc, rfl, hL, rfl, rfl⟩, ?_⟩
    show Steps p.tables e below _ ((({ U with heap := s₂.heap, slotsUsed := s₂.slotsUsed } : State).setVm s₂.vm).setTop { g with pc := g.pc + len₂, stack := v.toList ++ g.stack })
    rw [← hs₂]
    exact hsteps
  · obtain ⟨e2, q2, q3, q4, q5, q6⟩ := id hsm
    have e3 : s₂ = ({ (U.calling g mk a).setFrames s₂.frames with heap := s₂.heap, slotsUsed := s₂.slotsUsed } : State).setVm s₂.vm := by
      have : s₂ = ({ s₂ with vm := (U.calling g mk a).vm } : State).setVm s₂.vm := rfl
      rw [e2] at this
      exact this
    have hf₂ : s₂.frames = .throwing q :: .java g :: U.frames.tail := hend
    have hW' : U.WarmedH s₂.vm := hW₂
    have hs₂ : s₂ = ((({ U with heap := s₂.heap, slotsUsed := s₂.slotsUsed } : State).setVm s₂.vm).setTop g).pushFrame (.throwing q) := by
      refine e3.trans ?_
      rw [hf₂, State.calling_eq h.top, State.setFrames_setFrames, State.pushFrame, State.frames_setTop _ hr', State.setTop_of_frames _ hr', State.setFrames_setFrames, hr]
      rfl
    have hsame : U.sameButNew ({ U with heap := s₂.heap, slotsUsed := s₂.slotsUsed } : State) L mc ms := by
      refine ⟨?_, q2, q3, q4, q5, q6⟩
      obtain ⟨t, ht, -⟩ := State.frames_cons hr
      show ({ U with heap := s₂.heap, slotsUsed := s₂.slotsUsed } : State) = { U.setFrames U.frames with heap := s₂.heap, slotsUsed := s₂.slotsUsed }
      rw [State.setFrames_self ht]
    subst hg
    refine Or.inr ⟨q, ⟨(({ U with heap := s₂.heap, slotsUsed := s₂.slotsUsed } : State).setVm s₂.vm), Ls ++ L, c0 + mc, s0 + ms⟩,
      ⟨X.admits, X.cas, X.clock, X.frames, X.room, X.hears, X.method, X.code, (X.here.setHeapUsed s₂.heap s₂.slotsUsed).setVm hW'.alike, X.tail, State.WarmedH.trans X.warmed hW', X.limits, X.bytes, X.same.trans (hsame.setVm s.vm)⟩,
      ⟨g, mk, s₂, L, E, ce, rfl, rfl, hx, hce, hcv, hcl, rfl, hL, rfl, rfl⟩, ?_⟩
    show Steps p.tables e below _ (((({ U with heap := s₂.heap, slotsUsed := s₂.slotsUsed } : State).setVm s₂.vm).setTop g).pushFrame (.throwing q))
    rw [← hs₂]
    exact hsteps
end
variable {p : Program} {l : Launch} {e : Env} {R : Room} {s : State} {m : MethodId} {args : Array Value} {below : List Frame} {meth : Method} {c : Code} {T : State} {H : Heap} {locs : List Loc} {cells slots : Nat}
theorem vx_callVX (X : Stand p l e R s m args below meth c T locs cells slots) (hexec : p.tables.exec = Jvm.exec) {own C : String} {index : Nat} {y : MethodName} {bytes : ByteArray} {maxL : Nat} {ret : Option FieldType} {hh : List (Nat × Nat × Nat × Nat)}
    (hown : s.vm.findClass own = some m.cls) (hlink : (Cond.methodLink own index y).before args s = true) (hinst : (Cond.instanceMethod y).before args s = true) (hsel : (Cond.selects C y y).before args s = true)
    (hcode : (Cond.codeWith y bytes maxL ret hh).before args s = true) (hy : y.cls ≠ "java/lang/invoke/MethodHandle" ∧ y.cls ≠ "java/lang/invoke/VarHandle")
    {W9 : Nat} {Pre : Pt → Array Value → Prop} {Post : Pt → Array Value → Option Value → Pt → Prop} {PostX : Pt → Array Value → Addr → Pt → Prop} (hK : vx_Back l R p e below s args y 3 W9 Pre Post PostX)
    {b : Addr} {cellB : Cell} (hcell : T.heap[b]? = some cellB) (hobj : cellB.vm.isStatics = false) (hcls : s.vm.findClass C = some cellB.cls)
    {g : JFrame} (hg : g.method = m) (hsize : g.locals.size = c.maxLocals) {argsL rest : List Value} (hlen : ∀ sig, parseMethodDescriptor y.desc = some sig → argsL.length = sig.parameters.length)
    (hstack : g.stack = argsL.reverse ++ .ref b :: rest) (hW : 2 * g.monitorRoom + (rest.map fun v => v.category).sum ≤ W9) (hdg : decode c.code g.pc = .ok (.invokevirtual index, 3))
    (hpre : ∀ vm₁, s.WarmedH vm₁ → Pre ⟨T.setVm vm₁, locs, cells, slots⟩ (Value.ref b :: argsL).toArray) :
    (∃ (v : Option Value) (vm₁ : Vm) (B : Pt), s.WarmedH vm₁ ∧ Stand p l e R s m args below meth c B.U B.locs B.cells B.slots ∧ Post ⟨T.setVm vm₁, locs, cells, slots⟩ (Value.ref b :: argsL).toArray v B ∧
      ∀ target, Steps p.tables e below (B.U.setTop { g with pc := g.pc + 3, stack := v.toList ++ rest }) target → Steps p.tables e below (T.setTop g) target) ∨
    (∃ (q : Addr) (vm₁ : Vm) (B : Pt), s.WarmedH vm₁ ∧ Stand p l e R s m args below meth c B.U B.locs B.cells B.slots ∧ PostX ⟨T.setVm vm₁, locs, cells, slots⟩ (Value.ref b :: argsL).toArray q B ∧
      Steps p.tables e below (T.setTop g) ((B.U.setTop { g with stack := rest }).pushFrame (.throwing q))) := by
  obtain ⟨mk, methM, hnamed, hmethM, hstM, habM⟩ := Cond.instanceMethod_spec hinst
  obtain ⟨m8, methM', cM, hn8, hmethM', -, -, -, -, -, -, hsigM⟩ := Cond.codeWith_spec hcode
  cases Option.some.inj (hn8.symm.trans hnamed)
  cases hmethM.symm.trans hmethM'
  obtain ⟨c2, r2, m2, q1, q2, q3, q4, kP, hkP, hkPi⟩ := Cond.selects_spec hsel
  cases hcls.symm.trans q1
  cases (State.methodFound?_of_named hnamed hy).symm.trans q2
  cases hnamed.symm.trans q3
  have hselP : selectMethod e.platform s.vm cellB.cls mk = .method mk := by rw [Launch.admits_selectMethod X.admits]; exact q4
  obtain ⟨vm₁, X₁, hstep₁⟩ := X.invokevirtual hexec hown hlink hnamed hmethM hstM hkP hkPi hy (a := b) (cell := cellB) hcell
    (fun z h => by rw [h] at hobj; cases hobj) hselP hmethM habM hkP hkPi (g := g) hg (argsL := argsL) (rest := rest) (hlen _ hsigM) hstack hdg
  rcases hK m meth c ⟨T.setVm vm₁, locs, cells, slots⟩ { g with stack := rest } (.invokevirtual index) mk (Value.ref b :: argsL).toArray X₁ hg hsize hdg hW (X₁.named hnamed) (hpre vm₁ X₁.warmed) with ⟨v, B, X', hpost, hsteps⟩ | ⟨q, B, X', hpost, hsteps⟩
  · exact Or.inl ⟨v, vm₁, B, X₁.warmed, X', hpost, fun target h => hstep₁ _ fun acts => by rw [doInvoke_state]; exact hsteps.trans h⟩
  · exact Or.inr ⟨q, vm₁, B, X₁.warmed, X', hpost, hstep₁ _ fun acts => by rw [doInvoke_state]; exact hsteps⟩
theorem vx_callSX (X : Stand p l e R s m args below meth c T locs cells slots) (hexec : p.tables.exec = Jvm.exec) {own : String} {index : Nat} {y : MethodName} {bytes : ByteArray} {maxL : Nat} {ret : Option FieldType} {hh : List (Nat × Nat × Nat × Nat)}
    (hown : s.vm.findClass own = some m.cls) (hlink : (Cond.methodLink own index y).before args s = true) (hstat : (Cond.static y).before args s = true) (hinit : (Cond.initialized y.cls).before args s = true)
    (hcode : (Cond.codeWith y bytes maxL ret hh).before args s = true) (hy : y.cls ≠ "java/lang/invoke/MethodHandle" ∧ y.cls ≠ "java/lang/invoke/VarHandle")
    {W9 : Nat} {Pre : Pt → Array Value → Prop} {Post : Pt → Array Value → Option Value → Pt → Prop} {PostX : Pt → Array Value → Addr → Pt → Prop} (hK : vx_Back l R p e below s args y 3 W9 Pre Post PostX)
    {g : JFrame} (hg : g.method = m) (hsize : g.locals.size = c.maxLocals) {argsL rest : List Value} (hlen : ∀ sig, parseMethodDescriptor y.desc = some sig → argsL.length = sig.parameters.length)
    (hstack : g.stack = argsL.reverse ++ rest) (hW : 2 * g.monitorRoom + (rest.map fun v => v.category).sum ≤ W9) (hdg : decode c.code g.pc = .ok (.invokestatic index, 3))
    (hpre : ∀ vm₁, s.WarmedH vm₁ → Pre ⟨T.setVm vm₁, locs, cells, slots⟩ argsL.toArray) :
    (∃ (v : Option Value) (vm₁ : Vm) (B : Pt), s.WarmedH vm₁ ∧ Stand p l e R s m args below meth c B.U B.locs B.cells B.slots ∧ Post ⟨T.setVm vm₁, locs, cells, slots⟩ argsL.toArray v B ∧
      ∀ target, Steps p.tables e below (B.U.setTop { g with pc := g.pc + 3, stack := v.toList ++ rest }) target → Steps p.tables e below (T.setTop g) target) ∨
    (∃ (q : Addr) (vm₁ : Vm) (B : Pt), s.WarmedH vm₁ ∧ Stand p l e R s m args below meth c B.U B.locs B.cells B.slots ∧ PostX ⟨T.setVm vm₁, locs, cells, slots⟩ argsL.toArray q B ∧
      Steps p.tables e below (T.setTop g) ((B.U.setTop { g with stack := rest }).pushFrame (.throwing q))) := by
  obtain ⟨mk, methM, cM, hnamed, hmethM, -, -, -, -, -, -, hsigM⟩ := Cond.codeWith_spec hcode
  have hstatic : methM.isStatic = true := Cond.static_spec hnamed hmethM hstat
  obtain ⟨kP, hkP, -⟩ := className_of_methodNamed hnamed
  have hinitP : kP.init = .initialized := Cond.initialized_spec (findClass_of_methodNamed hnamed) hkP hinit
  obtain ⟨vm₁, X₁, hstep₁⟩ := X.invokestatic hexec hown hlink hnamed hmethM hstatic hkP hinitP hy (g := g) hg (argsL := argsL) (rest := rest) (hlen _ hsigM) hstack hdg
  rcases hK m meth c ⟨T.setVm vm₁, locs, cells, slots⟩ { g with stack := rest } (.invokestatic index) mk argsL.toArray X₁ hg hsize hdg hW (X₁.named hnamed) (hpre vm₁ X₁.warmed) with ⟨v, B, X', hpost, hsteps⟩ | ⟨q, B, X', hpost, hsteps⟩
  · exact Or.inl ⟨v, vm₁, B, X₁.warmed, X', hpost, fun target h => hstep₁ _ fun acts => by rw [doInvoke_state]; exact hsteps.trans h⟩
  · exact Or.inr ⟨q, vm₁, B, X₁.warmed, X', hpost, hstep₁ _ fun acts => by rw [doInvoke_state]; exact hsteps⟩
theorem vx_callVW (X : Stand p l e R s m args below meth c T locs cells slots) (hexec : p.tables.exec = Jvm.exec) {own C : String} {index : Nat} {y : MethodName} {bytes : ByteArray} {maxL : Nat} {ret : Option FieldType} {hh : List (Nat × Nat × Nat × Nat)}
    (hown : s.vm.findClass own = some m.cls) (hlink : (Cond.methodLink own index y).before args s = true) (hinst : (Cond.instanceMethod y).before args s = true) (hsel : (Cond.selects C y y).before args s = true)
    (hcode : (Cond.codeWith y bytes maxL ret hh).before args s = true) (hy : y.cls ≠ "java/lang/invoke/MethodHandle" ∧ y.cls ≠ "java/lang/invoke/VarHandle")
    {W9 : Nat} {Pre : Pt → Array Value → Prop} {Post : Pt → Array Value → Option Value → Pt → Prop} (hK : Back l R p e below s args y 3 W9 Pre Post)
    {b : Addr} {cellB : Cell} (hcell : T.heap[b]? = some cellB) (hobj : cellB.vm.isStatics = false) (hcls : s.vm.findClass C = some cellB.cls)
    {g : JFrame} (hg : g.method = m) (hsize : g.locals.size = c.maxLocals) {argsL rest : List Value} (hlen : ∀ sig, parseMethodDescriptor y.desc = some sig → argsL.length = sig.parameters.length)
    (hstack : g.stack = argsL.reverse ++ .ref b :: rest) (hW : 2 * g.monitorRoom + (rest.map fun v => v.category).sum ≤ W9) (hdg : decode c.code g.pc = .ok (.invokevirtual index, 3))
    (hpre : ∀ vm₁, s.WarmedH vm₁ → Pre ⟨T.setVm vm₁, locs, cells, slots⟩ (Value.ref b :: argsL).toArray) :
    ∃ (v : Option Value) (vm₁ : Vm) (B : Pt), s.WarmedH vm₁ ∧ Stand p l e R s m args below meth c B.U B.locs B.cells B.slots ∧ Post ⟨T.setVm vm₁, locs, cells, slots⟩ (Value.ref b :: argsL).toArray v B ∧
      ∀ target, Steps p.tables e below (B.U.setTop { g with pc := g.pc + 3, stack := v.toList ++ rest }) target → Steps p.tables e below (T.setTop g) target := by
  obtain ⟨mk, methM, hnamed, hmethM, hstM, habM⟩ := Cond.instanceMethod_spec hinst
  obtain ⟨m8, methM', cM, hn8, hmethM', -, -, -, -, -, -, hsigM⟩ := Cond.codeWith_spec hcode
  cases Option.some.inj (hn8.symm.trans hnamed)
  cases hmethM.symm.trans hmethM'
  obtain ⟨c2, r2, m2, q1, q2, q3, q4, kP, hkP, hkPi⟩ := Cond.selects_spec hsel
  cases hcls.symm.trans q1
  cases (State.methodFound?_of_named hnamed hy).symm.trans q2
  cases hnamed.symm.trans q3
  have hselP : selectMethod e.platform s.vm cellB.cls mk = .method mk := by rw [Launch.admits_selectMethod X.admits]; exact q4
  obtain ⟨vm₁, X₁, hstep₁⟩ := X.invokevirtual hexec hown hlink hnamed hmethM hstM hkP hkPi hy (a := b) (cell := cellB) hcell
    (fun z h => by rw [h] at hobj; cases hobj) hselP hmethM habM hkP hkPi (g := g) hg (argsL := argsL) (rest := rest) (hlen _ hsigM) hstack hdg
  obtain ⟨v, B, X', hpost, hsteps⟩ := hK m meth c ⟨T.setVm vm₁, locs, cells, slots⟩ { g with stack := rest } (.invokevirtual index) mk (Value.ref b :: argsL).toArray X₁ hg hsize hdg hW (X₁.named hnamed) (hpre vm₁ X₁.warmed)
  exact ⟨v, vm₁, B, X₁.warmed, X', hpost, fun target h => hstep₁ _ fun acts => by rw [doInvoke_state]; exact hsteps.trans h⟩
abbrev vx_CVW (R : Room) (s : State) (args : Array Value) (own C : String) (index : Nat) (y : MethodName) (bytes : ByteArray) (maxL : Nat) (ret : Option FieldType) (hh : List (Nat × Nat × Nat × Nat)) (ws : List Cond) (rm : Room) (mc ms n : Nat) : Prop :=
  (rm.cells = mc ∧ rm.slots = ms ∧ rm.frames + 1 ≤ R.frames ∧ 8 + (maxL + 11) + rm.locals ≤ R.locals ∧ (∀ w ∈ ws, ∀ (a' : Array Value) (U : State), s.WarmedH U.vm → w.before a' U = true) ∧ Cond.codeWith y bytes maxL ret hh ∈ ws) ∧
  (Cond.codeWith y bytes maxL ret hh).before args s = true ∧ (Cond.initialized y.cls).before args s = true ∧ (y.cls ≠ "java/lang/invoke/MethodHandle" ∧ y.cls ≠ "java/lang/invoke/VarHandle") ∧
  (∀ sig, parseMethodDescriptor y.desc = some sig → n = sig.parameters.length) ∧ (Cond.methodLink own index y).before args s = true ∧ (Cond.instanceMethod y).before args s = true ∧ (Cond.selects C y y).before args s = true
theorem vx_cwVW {own C : String} {index maxL mc ms : Nat} {y : MethodName} {bytes : ByteArray} {ret : Option FieldType} {hh : List (Nat × Nat × Nat × Nat)} {Ts ws ws' : List Cond} {rm : Room} (n : Nat) (ht : ∀ w ∈ Ts, w.before args s = true) (hT : GoodIn Ts (wsV own index C y ws)) (hw : ws = Cond.codeWith y bytes maxL ret hh :: ws') (hrc : rm.cells = mc) (hrs : rm.slots = ms)
    (hd : y.cls = C ∧ y.cls ≠ "java/lang/invoke/MethodHandle" ∧ y.cls ≠ "java/lang/invoke/VarHandle" ∧ (parseMethodDescriptor y.desc).map (fun d => d.parameters.length) = some n) (hR : rm.frames + 1 ≤ R.frames ∧ 8 + (maxL + 11) + rm.locals ≤ R.locals) :
    vx_CVW R s args own C index y bytes maxL ret hh ws rm mc ms n := by
  obtain ⟨hC, hd⟩ := hd
  subst hC
  have ok : ∀ w ∈ wsV own index y.cls y ws, w.before args s = true := fun w h => ht w (hT w h).1
  have hG : GoodIn Ts ws := fun w h => hT w (by unfold wsV; exact List.mem_append_right _ h)
  have hc : Cond.codeWith y bytes maxL ret hh ∈ ws := by rw [hw]; exact List.mem_cons_self
  refine ⟨⟨hrc, hrs, hR.1, hR.2, pay_in ht hG, hc⟩, ht _ (hG _ hc).1, ok _ (by simp [wsV]), ⟨hd.1, hd.2.1⟩, fun sig h => ?_, ok _ (by simp [wsV]), ok _ (by simp [wsV]), ok _ (by simp [wsV])⟩
  have h2 := hd.2.2
  rw [h] at h2
  exact (Option.some.inj h2).symm
theorem vx_runVW {y : MethodName} {bytes cc : ByteArray} {maxL nL mc ms n index : Nat} {ret : Option FieldType} {hh : List (Nat × Nat × Nat × Nat)} {ws : List Cond} {rm : Room} {Pc : Array Value → State → Prop} {Qc : Array Value → State → Outcome → State → Prop} {free : Addr → Prop} {Ts : List Cond} {own C : String} {b : Addr} {As rest : List Value} {g : JFrame}
    (S : CallFix p m c cc nL s args Ts own) (hM : Met l y ws rm Pc Qc mc ms free) (cw : vx_CVW R s args own C index y bytes maxL ret hh ws rm mc ms n) (hp : PreV s H C b Pc As)
    (hg : g.method = m) (hn : As.length = n) (hsize : g.locals.size = nL) (hstack : g.stack = As.reverse ++ .ref b :: rest) (hW : 2 * g.monitorRoom + (rest.map fun v => v.category).sum ≤ 8) (hdg : decode cc g.pc = .ok (.invokevirtual index, 3)) (hf : cells + mc ≤ R.cells ∧ slots + ms ≤ R.slots) :
    va_Run p l e R s m args below meth c H locs cells slots mc ms g rest (Qc (Value.ref b :: As).toArray) free := by
  obtain ⟨⟨hrc, hrs, hfr, hlo, hws, hcw⟩, hcode, hini, hy, hlen, hl, hin, hse⟩ := cw
  have hK : Back l R p e below s args y 3 8 (PreOf R mc ms Pc) (PostOf Qc mc ms free) := va_backW (hh := hh) (bytes := bytes) (maxL := maxL) (ret := ret) hM hp.1 hrc hrs hfr hlo hws hcw (fun a' U hW => word_at hW (Or.inl (by first | rfl | simp [Cond.onTables, Cond.keeps, Cond.steady])) hini)
  obtain ⟨hx, hb, hml, ho, -⟩ := S
  obtain ⟨-, ⟨cellB, hcB, hoB, hclB⟩, hPc⟩ := hp
  intro T hT X
  obtain ⟨v, vm₁, ⟨U', l2, c2, s2⟩, hW₁, X', ⟨g', mk, t, L, e1, e2, hq, h1, hL, h2, h3⟩, st⟩ := vx_callVW X hx (C := C) (hh := hh) (bytes := bytes) (maxL := maxL) (ret := ret) ho hl hin hse hcode hy hK (by rw [hT]; exact hcB) hoB hclB hg (hsize.trans hml.symm) (argsL := As) (rest := rest) (fun sig h => hn.trans (hlen sig h)) hstack hW (by rw [hb]; exact hdg)
    (fun vm₁ hW₁ => ⟨hf.1, hf.2, hPc (T.setVm vm₁) hT hW₁⟩)
  dsimp only [Pt.U, Pt.locs, Pt.cells, Pt.slots] at X' e1 e2 h1 h2 h3 st
  subst h1; subst h2; subst h3
  exact ⟨v, (T.setVm vm₁).calling g' mk (Value.ref b :: As).toArray, t, U', L, hT, X', hL, e1, e2, hq, st⟩
section
variable {y : MethodName} {bytes cc : ByteArray} {maxL nL mc ms n index : Nat} {ret : Option FieldType} {ws : List Cond} {rm : Room} {Pc : Array Value → State → Prop} {Qc : Array Value → State → Outcome → State → Prop} {XC : String → State → State → Prop} {free : Addr → Prop} {Ts : List Cond} {own C : String} {b : Addr} {As rest : List Value} {g : JFrame}
theorem vx_runVX {hh : List (Nat × Nat × Nat × Nat)} (S : CallFix p m c cc nL s args Ts own) (hM : vx_Met l y ws rm Pc Qc XC mc ms free) (cw : vx_CVW R s args own C index y bytes maxL ret hh ws rm mc ms n) (hp : PreV s H C b Pc As)
    (hg : g.method = m) (hn : As.length = n) (hsize : g.locals.size = nL) (hstack : g.stack = As.reverse ++ .ref b :: rest) (hW : 2 * g.monitorRoom + (rest.map fun v => v.category).sum ≤ 8) (hdg : decode cc g.pc = .ok (.invokevirtual index, 3)) (hf : cells + mc ≤ R.cells ∧ slots + ms ≤ R.slots) :
    vx_Run p l e R s m args below meth c H locs cells slots mc ms g rest (Qc (Value.ref b :: As).toArray) XC free := by
  obtain ⟨⟨hrc, hrs, hfr, hlo, hws, hcw⟩, hcode, hini, hy, hlen, hl, hin, hse⟩ := cw
  have hK : vx_Back l R p e below s args y 3 8 (PreOf R mc ms Pc) (PostOf Qc mc ms free) (vx_Post XC mc ms free) := vx_backW (hh := hh) (bytes := bytes) (maxL := maxL) (ret := ret) hM hp.1 hrc hrs hfr hlo hws hcw (fun a' U hW => word_at hW (Or.inl (by first | rfl | simp [Cond.onTables, Cond.keeps, Cond.steady])) hini)
  obtain ⟨hx, hb, hml, ho, -⟩ := S
  obtain ⟨-, ⟨cellB, hcB, hoB, hclB⟩, hPc⟩ := hp
  intro T hT X
  rcases vx_callVX X hx (C := C) (hh := hh) (bytes := bytes) (maxL := maxL) (ret := ret) ho hl hin hse hcode hy hK (by rw [hT]; exact hcB) hoB hclB hg (hsize.trans hml.symm) (argsL := As) (rest := rest) (fun sig h => hn.trans (hlen sig h)) hstack hW (by rw [hb]; exact hdg)
    (fun vm₁ hW₁ => ⟨hf.1, hf.2, hPc (T.setVm vm₁) hT hW₁⟩) with ⟨v, vm₁, ⟨U', l2, c2, s2⟩, hW₁, X', ⟨g', mk, t, L, e1, e2, hq, h1, hL, h2, h3⟩, st⟩ | ⟨q, vm₁, ⟨U', l2, c2, s2⟩, hW₁, X', ⟨g', mk, t, L, E, ce, e1, e2, hq, hce, hcv, hcl, h1, hL, h2, h3⟩, st⟩
  · dsimp only [Pt.U, Pt.locs, Pt.cells, Pt.slots] at X' e1 e2 h1 h2 h3 st
    subst h1; subst h2; subst h3
    exact Or.inl ⟨v, (T.setVm vm₁).calling g' mk (Value.ref b :: As).toArray, t, U', L, hT, X', hL, e1, e2, hq, st⟩
  · dsimp only [Pt.U, Pt.locs, Pt.cells, Pt.slots] at X' e1 e2 h1 h2 h3 st hcl
    subst h1; subst h2; subst h3
    exact Or.inr ⟨q, (T.setVm vm₁).calling g' mk (Value.ref b :: As).toArray, t, U', L, E, ce, hT, X', hL, e1, e2, hq, hce, hcv, vx_cls hW₁ hcl, st⟩
theorem vx_runSX {hh : List (Nat × Nat × Nat × Nat)} (S : CallFix p m c cc nL s args Ts own) (hM : vx_Met l y ws rm Pc Qc XC mc ms free) (cw : vx_CSW R s args own index y bytes maxL ret hh ws rm mc ms n) (hp : PreS s H Pc As)
    (hg : g.method = m) (hn : As.length = n) (hsize : g.locals.size = nL) (hstack : g.stack = As.reverse ++ rest) (hW : 2 * g.monitorRoom + (rest.map fun v => v.category).sum ≤ 8) (hdg : decode cc g.pc = .ok (.invokestatic index, 3)) (hf : cells + mc ≤ R.cells ∧ slots + ms ≤ R.slots) :
    vx_Run p l e R s m args below meth c H locs cells slots mc ms g rest (Qc As.toArray) XC free := by
  obtain ⟨⟨hrc, hrs, hfr, hlo, hws, hcw⟩, hcode, hini, hy, hlen, hl, hstt⟩ := cw
  have hK : vx_Back l R p e below s args y 3 8 (PreOf R mc ms Pc) (PostOf Qc mc ms free) (vx_Post XC mc ms free) := vx_backW (hh := hh) (bytes := bytes) (maxL := maxL) (ret := ret) hM hp.1 hrc hrs hfr hlo hws hcw (fun a' U hW => word_at hW (Or.inl (by first | rfl | simp [Cond.onTables, Cond.keeps, Cond.steady])) hini)
  obtain ⟨hx, hb, hml, ho, -⟩ := S
  intro T hT X
  rcases vx_callSX X hx (hh := hh) (bytes := bytes) (maxL := maxL) (ret := ret) ho hl hstt hini hcode hy hK hg (hsize.trans hml.symm) (argsL := As) (rest := rest) (fun sig h => hn.trans (hlen sig h)) hstack hW (by rw [hb]; exact hdg)
    (fun vm₁ hW₁ => ⟨hf.1, hf.2, hp.2 (T.setVm vm₁) hT hW₁⟩) with ⟨v, vm₁, ⟨U', l2, c2, s2⟩, hW₁, X', ⟨g', mk, t, L, e1, e2, hq, h1, hL, h2, h3⟩, st⟩ | ⟨q, vm₁, ⟨U', l2, c2, s2⟩, hW₁, X', ⟨g', mk, t, L, E, ce, e1, e2, hq, hce, hcv, hcl, h1, hL, h2, h3⟩, st⟩
  · dsimp only [Pt.U, Pt.locs, Pt.cells, Pt.slots] at X' e1 e2 h1 h2 h3 st
    subst h1; subst h2; subst h3
    exact Or.inl ⟨v, (T.setVm vm₁).calling g' mk As.toArray, t, U', L, hT, X', hL, e1, e2, hq, st⟩
  · dsimp only [Pt.U, Pt.locs, Pt.cells, Pt.slots] at X' e1 e2 h1 h2 h3 st hcl
    subst h1; subst h2; subst h3
    exact Or.inr ⟨q, (T.setVm vm₁).calling g' mk As.toArray, t, U', L, E, ce, hT, X', hL, e1, e2, hq, hce, hcv, vx_cls hW₁ hcl, st⟩
end
end VXH
theorem vx_ofWH {l : Launch} {y : MethodName} {ws ws' : List Cond} {rm : Room} {Pc : Array Value → State → Prop} {Qc : Array Value → State → Outcome → State → Prop} {XC : String → State → State → Prop} {mc ms : Nat} {free : Addr → Prop} {cc : ByteArray} {maxL : Nat} {ret : Option FieldType} {hh : List (Nat × Nat × Nat × Nat)}
    (hy : plainName y.cls = true) (hw : ws = Cond.codeWith y cc maxL ret hh :: ws')
    (body : ∀ p e s m args below meth c s₁, BodyLoose p l y (headSpec ws rm) cc maxL ret e s m args below meth c s₁ → c.maxLocals = maxL → Pc args s →
      W p l e (headSpec ws rm).room s m args below meth c s.heap [] 0 0 (vx_MQ below Qc XC args s mc ms free) (entryFrame m args maxL)) : vx_Met l y ws rm Pc Qc XC mc ms free := by
  refine MetFree.of_bodyS (code := cc) (maxLocals := maxL) (ret := ret) hy ?_ ?_
  · intro args s m h hn
    obtain ⟨m9, meth, c, hn9, h1, h2, h3, h4, -, h5, h6, -⟩ := Cond.codeWith_spec (atoms_spec (ws := ws) h _ (by rw [hw]; exact List.mem_cons_self))
    cases hn.symm.trans hn9
    exact ⟨meth, c, h1, h2, h3, h4, h5, h6⟩
  · intro p e s m args below meth c s₁ B hml hP _
    have hh0 : s₁.heap = s.heap := by rw [B.state]; rfl
    obtain ⟨t, a1, o, b1, b2, b3⟩ := body p e s m args below meth c s₁ B hml hP s₁ hh0 (Stand.of_body B)
    exact ⟨t, o, a1, b1, b2, b3⟩
/-! ===== END ===== -/
end
section
/-! ===== BEGIN printed: names, fields, word lists, decode rows ===== -/
def RX0 : String := "SlantOaths$History"
def TX0 : u_T := fun k => match k with
  | 0 => ("SlantOaths$History", "slots", "[LSlantOaths$Table;", true)
  | 1 => ("SlantOaths$History", "newest", "I", false)
  | _ => ("SlantOaths$History", "size", "I", false)
def tyX0 : Nat → FieldType := fun k => match k with
  | 0 => .array (.object "SlantOaths$Table")
  | 1 => .int
  | _ => .int
abbrev wsX00 : List Cond := u_ws RX0 TX0 3
theorem nmX0 : ∀ a, a < 3 → ∀ b, b < 3 → a ≠ b → (TX0 a).2.1 ≠ (TX0 b).2.1 := by decide +kernel
theorem tyX0_ok : ∀ k, k < 3 → parseFieldDescriptor (TX0 k).2.2.1 = some (tyX0 k) := by decide +kernel
abbrev cX0_init : ByteArray := prog_2_method_1_code
def yX0_init : MethodName := ⟨RX0, "<init>", "()V"⟩
abbrev cX0_save : ByteArray := prog_2_method_2_code
def yX0_save : MethodName := ⟨RX0, "save", "(LSlantOaths$Table;)V"⟩
abbrev cX0_bringBack : ByteArray := prog_2_method_3_code
def yX0_bringBack : MethodName := ⟨RX0, "bringBack", "(LSlantOaths$Table;)V"⟩
abbrev cX0_newestSlot : ByteArray := prog_2_method_4_code
def yX0_newestSlot : MethodName := ⟨RX0, "newestSlot", "()LSlantOaths$Table;"⟩
def RX1 : String := "SlantOaths$Oaths"
def TX1 : u_T := fun k => match k with
  | 0 => ("SlantOaths$Oaths", "size", "I", false)
  | 1 => ("SlantOaths$Oaths", "sworn", "I", false)
  | 2 => ("SlantOaths$Oaths", "firsts", "LSlantOaths$Row;", true)
  | 3 => ("SlantOaths$Oaths", "seconds", "LSlantOaths$Row;", true)
  | 4 => ("SlantOaths$Oaths", "likes", "LSlantOaths$Row;", true)
  | _ => ("SlantOaths$Oaths", "hands", "LSlantOaths$Row;", true)
def tyX1 : Nat → FieldType := fun k => match k with
  | 0 => .int
  | 1 => .int
  | 2 => .object "SlantOaths$Row"
  | 3 => .object "SlantOaths$Row"
  | 4 => .object "SlantOaths$Row"
  | _ => .object "SlantOaths$Row"
abbrev wsX10 : List Cond := u_ws RX1 TX1 6
theorem nmX1 : ∀ a, a < 6 → ∀ b, b < 6 → a ≠ b → (TX1 a).2.1 ≠ (TX1 b).2.1 := by decide +kernel
theorem tyX1_ok : ∀ k, k < 6 → parseFieldDescriptor (TX1 k).2.2.1 = some (tyX1 k) := by decide +kernel
abbrev cX1_init : ByteArray := prog_3_method_1_code
def yX1_init : MethodName := ⟨RX1, "<init>", "()V"⟩
abbrev cX1_takeOver : ByteArray := prog_3_method_2_code
def yX1_takeOver : MethodName := ⟨RX1, "takeOver", "(LSlantOaths$Oaths;)V"⟩
abbrev cX1_add : ByteArray := prog_3_method_3_code
def yX1_add : MethodName := ⟨RX1, "add", "(IIZ)V"⟩
abbrev cX1_removeAt : ByteArray := prog_3_method_4_code
def yX1_removeAt : MethodName := ⟨RX1, "removeAt", "(I)V"⟩
abbrev cX1_forgetSheet : ByteArray := prog_3_method_5_code
def yX1_forgetSheet : MethodName := ⟨RX1, "forgetSheet", "(I)I"⟩
abbrev cX1_placeOf : ByteArray := prog_3_method_6_code
def yX1_placeOf : MethodName := ⟨RX1, "placeOf", "(II)I"⟩
abbrev cX1_kindOf : ByteArray := prog_3_method_7_code
def yX1_kindOf : MethodName := ⟨RX1, "kindOf", "(II)I"⟩
abbrev cX1_numberOf : ByteArray := prog_3_method_8_code
def yX1_numberOf : MethodName := ⟨RX1, "numberOf", "(II)I"⟩
abbrev cX1_ofSheet : ByteArray := prog_3_method_9_code
def yX1_ofSheet : MethodName := ⟨RX1, "ofSheet", "(I)I"⟩
abbrev cX1_ofOneHand : ByteArray := prog_3_method_10_code
def yX1_ofOneHand : MethodName := ⟨RX1, "ofOneHand", "()I"⟩
abbrev cX1_handOf : ByteArray := prog_3_method_11_code
def yX1_handOf : MethodName := ⟨RX1, "handOf", "(I)I"⟩
abbrev cX1_forbidJoining : ByteArray := prog_3_method_12_code
def yX1_forbidJoining : MethodName := ⟨RX1, "forbidJoining", "(II)Z"⟩
abbrev cX1_leads : ByteArray := prog_3_method_13_code
def yX1_leads : MethodName := ⟨RX1, "leads", "(III)Z"⟩
abbrev cX1_holdsTogether : ByteArray := prog_3_method_14_code
def yX1_holdsTogether : MethodName := ⟨RX1, "holdsTogether", "(I)Z"⟩
abbrev cX1_isOf : ByteArray := prog_3_method_15_code
def yX1_isOf : MethodName := ⟨RX1, "isOf", "(II)Z"⟩
abbrev cX1_isInHands : ByteArray := prog_3_method_16_code
def yX1_isInHands : MethodName := ⟨RX1, "isInHands", "(III)Z"⟩
abbrev cX1_takeOut : ByteArray := prog_3_method_17_code
def yX1_takeOut : MethodName := ⟨RX1, "takeOut", "(I)V"⟩
abbrev cX1_joinHands : ByteArray := prog_3_method_18_code
def yX1_joinHands : MethodName := ⟨RX1, "joinHands", "()V"⟩
abbrev cX1_joinTwo : ByteArray := prog_3_method_19_code
def yX1_joinTwo : MethodName := ⟨RX1, "joinTwo", "(II)V"⟩
abbrev cX1_numberWithout : ByteArray := prog_3_method_20_code
def yX1_numberWithout : MethodName := ⟨RX1, "numberWithout", "(II)I"⟩
def RX2 : String := "SlantOaths$Row"
def TX2 : u_T := fun k => match k with
  | _ => ("SlantOaths$Row", "cells", "[I", true)
def tyX2 : Nat → FieldType := fun k => match k with
  | _ => .array .int
abbrev wsX20 : List Cond := u_ws RX2 TX2 1
theorem nmX2 : ∀ a, a < 1 → ∀ b, b < 1 → a ≠ b → (TX2 a).2.1 ≠ (TX2 b).2.1 := by decide +kernel
theorem tyX2_ok : ∀ k, k < 1 → parseFieldDescriptor (TX2 k).2.2.1 = some (tyX2 k) := by decide +kernel
abbrev cX2_init : ByteArray := prog_4_method_1_code
def yX2_init : MethodName := ⟨RX2, "<init>", "(I)V"⟩
abbrev cX2_at : ByteArray := prog_4_method_2_code
def yX2_at : MethodName := ⟨RX2, "at", "(I)I"⟩
abbrev cX2_put : ByteArray := prog_4_method_3_code
def yX2_put : MethodName := ⟨RX2, "put", "(II)V"⟩
abbrev cX2_copyFrom : ByteArray := prog_4_method_4_code
def yX2_copyFrom : MethodName := ⟨RX2, "copyFrom", "(LSlantOaths$Row;)V"⟩
abbrev cX2_closeUp : ByteArray := prog_4_method_5_code
def yX2_closeUp : MethodName := ⟨RX2, "closeUp", "(I)V"⟩
def RX3 : String := "SlantOaths$Sheet"
def TX3 : u_T := fun k => match k with
  | 0 => ("SlantOaths$Sheet", "strokes", "I", true)
  | 1 => ("SlantOaths$Sheet", "numbers", "LSlantOaths$Row;", true)
  | _ => ("SlantOaths$Sheet", "marks", "LSlantOaths$Row;", true)
def tyX3 : Nat → FieldType := fun k => match k with
  | 0 => .int
  | 1 => .object "SlantOaths$Row"
  | _ => .object "SlantOaths$Row"
abbrev wsX30 : List Cond := u_ws RX3 TX3 3
theorem nmX3 : ∀ a, a < 3 → ∀ b, b < 3 → a ≠ b → (TX3 a).2.1 ≠ (TX3 b).2.1 := by decide +kernel
theorem tyX3_ok : ∀ k, k < 3 → parseFieldDescriptor (TX3 k).2.2.1 = some (tyX3 k) := by decide +kernel
abbrev cX3_init : ByteArray := prog_5_method_1_code
def yX3_init : MethodName := ⟨RX3, "<init>", "(ILSlantOaths$Row;)V"⟩
abbrev cX3_reckonMarks : ByteArray := prog_5_method_2_code
def yX3_reckonMarks : MethodName := ⟨RX3, "reckonMarks", "()V"⟩
abbrev cX3_total : ByteArray := prog_5_method_3_code
def yX3_total : MethodName := ⟨RX3, "total", "(I)I"⟩
abbrev cX3_toldNumber : ByteArray := prog_5_method_4_code
def yX3_toldNumber : MethodName := ⟨RX3, "toldNumber", "(II)I"⟩
abbrev cX3_toldMark : ByteArray := prog_5_method_5_code
def yX3_toldMark : MethodName := ⟨RX3, "toldMark", "(I)I"⟩
abbrev cX3_mixInto : ByteArray := prog_5_method_6_code
def yX3_mixInto : MethodName := ⟨RX3, "mixInto", "(J)J"⟩
abbrev cX3_numberOf : ByteArray := prog_5_method_7_code
def yX3_numberOf : MethodName := ⟨RX3, "numberOf", "(II)I"⟩
abbrev cX3_slantRange : ByteArray := prog_5_method_8_code
def yX3_slantRange : MethodName := ⟨RX3, "slantRange", "()I"⟩
abbrev cX3_loopHeights : ByteArray := prog_5_method_9_code
def yX3_loopHeights : MethodName := ⟨RX3, "loopHeights", "()I"⟩
abbrev cX3_pressureSteps : ByteArray := prog_5_method_10_code
def yX3_pressureSteps : MethodName := ⟨RX3, "pressureSteps", "()I"⟩
abbrev cX3_mean : ByteArray := prog_5_method_11_code
def yX3_mean : MethodName := ⟨RX3, "mean", "(II)I"⟩
def RX4 : String := "SlantOaths$Table"
def TX4 : u_T := fun k => match k with
  | 0 => ("SlantOaths$Table", "blank", "LSlantOaths$Sheet;", true)
  | 1 => ("SlantOaths$Table", "sheets", "[LSlantOaths$Sheet;", true)
  | 2 => ("SlantOaths$Table", "ages", "LSlantOaths$Row;", true)
  | 3 => ("SlantOaths$Table", "size", "I", false)
  | 4 => ("SlantOaths$Table", "oaths", "LSlantOaths$Oaths;", true)
  | 5 => ("SlantOaths$Table", "settings", "LSlantOaths$Row;", true)
  | 6 => ("SlantOaths$Table", "stopPart", "I", false)
  | _ => ("SlantOaths$Table", "stopReason", "I", false)
def tyX4 : Nat → FieldType := fun k => match k with
  | 0 => .object "SlantOaths$Sheet"
  | 1 => .array (.object "SlantOaths$Sheet")
  | 2 => .object "SlantOaths$Row"
  | 3 => .int
  | 4 => .object "SlantOaths$Oaths"
  | 5 => .object "SlantOaths$Row"
  | 6 => .int
  | _ => .int
abbrev wsX40 : List Cond := u_ws RX4 TX4 8
theorem nmX4 : ∀ a, a < 8 → ∀ b, b < 8 → a ≠ b → (TX4 a).2.1 ≠ (TX4 b).2.1 := by decide +kernel
theorem tyX4_ok : ∀ k, k < 8 → parseFieldDescriptor (TX4 k).2.2.1 = some (tyX4 k) := by decide +kernel
abbrev cX4_init : ByteArray := prog_6_method_1_code
def yX4_init : MethodName := ⟨RX4, "<init>", "()V"⟩
abbrev cX4_takeOver : ByteArray := prog_6_method_2_code
def yX4_takeOver : MethodName := ⟨RX4, "takeOver", "(LSlantOaths$Table;)V"⟩
abbrev cX4_forgetStop : ByteArray := prog_6_method_3_code
def yX4_forgetStop : MethodName := ⟨RX4, "forgetStop", "()V"⟩
abbrev cX4_sheetAt : ByteArray := prog_6_method_4_code
def yX4_sheetAt : MethodName := ⟨RX4, "sheetAt", "(I)LSlantOaths$Sheet;"⟩
abbrev cX4_putDown : ByteArray := prog_6_method_5_code
def yX4_putDown : MethodName := ⟨RX4, "putDown", "(LSlantOaths$Sheet;I)I"⟩
abbrev cX4_takeAway : ByteArray := prog_6_method_6_code
def yX4_takeAway : MethodName := ⟨RX4, "takeAway", "(I)I"⟩
abbrev cX4_growOlder : ByteArray := prog_6_method_7_code
def yX4_growOlder : MethodName := ⟨RX4, "growOlder", "(I)I"⟩
abbrev cX4_numberOfSheet : ByteArray := prog_6_method_8_code
def yX4_numberOfSheet : MethodName := ⟨RX4, "numberOfSheet", "(II)I"⟩
abbrev cX4_numberOfAll : ByteArray := prog_6_method_9_code
def yX4_numberOfAll : MethodName := ⟨RX4, "numberOfAll", "(I)I"⟩
abbrev cX4_comparison : ByteArray := prog_6_method_10_code
def yX4_comparison : MethodName := ⟨RX4, "comparison", "(III)I"⟩
abbrev cX4_reasonAgainst : ByteArray := prog_6_method_11_code
def yX4_reasonAgainst : MethodName := ⟨RX4, "reasonAgainst", "(IIZ)I"⟩
abbrev cX4_likeness : ByteArray := prog_6_method_12_code
def yX4_likeness : MethodName := ⟨RX4, "likeness", "(III)I"⟩
abbrev cX4_neededTolerance : ByteArray := prog_6_method_13_code
def yX4_neededTolerance : MethodName := ⟨RX4, "neededTolerance", "(III)I"⟩
abbrev cX4_mostAlike : ByteArray := prog_6_method_14_code
def yX4_mostAlike : MethodName := ⟨RX4, "mostAlike", "(I)I"⟩
abbrev cX4_hands : ByteArray := prog_6_method_15_code
def yX4_hands : MethodName := ⟨RX4, "hands", "()I"⟩
abbrev cX4_shareOfHands : ByteArray := prog_6_method_16_code
def yX4_shareOfHands : MethodName := ⟨RX4, "shareOfHands", "()D"⟩
abbrev cX4_agreeing : ByteArray := prog_6_method_17_code
def yX4_agreeing : MethodName := ⟨RX4, "agreeing", "(III)I"⟩
abbrev cX4_fadedMarks : ByteArray := prog_6_method_18_code
def yX4_fadedMarks : MethodName := ⟨RX4, "fadedMarks", "(I)I"⟩
abbrev cX4_allowance : ByteArray := prog_6_method_19_code
def yX4_allowance : MethodName := ⟨RX4, "allowance", "(II)I"⟩
abbrev cX4_trembles : ByteArray := prog_6_method_20_code
def yX4_trembles : MethodName := ⟨RX4, "trembles", "(I)Z"⟩
abbrev cX4_areOfOneHand : ByteArray := prog_6_method_21_code
def yX4_areOfOneHand : MethodName := ⟨RX4, "areOfOneHand", "(II)Z"⟩
abbrev cX4_mostOfAHand : ByteArray := prog_6_method_22_code
def yX4_mostOfAHand : MethodName := ⟨RX4, "mostOfAHand", "()I"⟩
abbrev cX4_tremblingSheets : ByteArray := prog_6_method_23_code
def yX4_tremblingSheets : MethodName := ⟨RX4, "tremblingSheets", "()I"⟩
abbrev cX4_likePairs : ByteArray := prog_6_method_24_code
def yX4_likePairs : MethodName := ⟨RX4, "likePairs", "()I"⟩
def RX5 : String := "SlantOaths$Text"
def TX5 : u_T := fun k => match k with
  | 0 => ("SlantOaths$Text", "codes", "LSlantOaths$Row;", true)
  | 1 => ("SlantOaths$Text", "length", "I", false)
  | 2 => ("SlantOaths$Text", "place", "I", false)
  | 3 => ("SlantOaths$Text", "isBroken", "Z", false)
  | 4 => ("SlantOaths$Text", "numbers", "LSlantOaths$Row;", true)
  | 5 => ("SlantOaths$Text", "strokes", "I", false)
  | 6 => ("SlantOaths$Text", "kinds", "LSlantOaths$Row;", true)
  | 7 => ("SlantOaths$Text", "firsts", "LSlantOaths$Row;", true)
  | 8 => ("SlantOaths$Text", "seconds", "LSlantOaths$Row;", true)
  | _ => ("SlantOaths$Text", "parts", "I", false)
def tyX5 : Nat → FieldType := fun k => match k with
  | 0 => .object "SlantOaths$Row"
  | 1 => .int
  | 2 => .int
  | 3 => .boolean
  | 4 => .object "SlantOaths$Row"
  | 5 => .int
  | 6 => .object "SlantOaths$Row"
  | 7 => .object "SlantOaths$Row"
  | 8 => .object "SlantOaths$Row"
  | _ => .int
abbrev wsX50 : List Cond := u_ws RX5 TX5 10
theorem nmX5 : ∀ a, a < 10 → ∀ b, b < 10 → a ≠ b → (TX5 a).2.1 ≠ (TX5 b).2.1 := by decide +kernel
theorem tyX5_ok : ∀ k, k < 10 → parseFieldDescriptor (TX5 k).2.2.1 = some (tyX5 k) := by decide +kernel
abbrev cX5_init : ByteArray := prog_7_method_1_code
def yX5_init : MethodName := ⟨RX5, "<init>", "()V"⟩
abbrev cX5_add : ByteArray := prog_7_method_2_code
def yX5_add : MethodName := ⟨RX5, "add", "(I)I"⟩
abbrev cX5_empty : ByteArray := prog_7_method_3_code
def yX5_empty : MethodName := ⟨RX5, "empty", "()V"⟩
abbrev cX5_mixInto : ByteArray := prog_7_method_4_code
def yX5_mixInto : MethodName := ⟨RX5, "mixInto", "(J)J"⟩
abbrev cX5_readSheet : ByteArray := prog_7_method_5_code
def yX5_readSheet : MethodName := ⟨RX5, "readSheet", "()Z"⟩
abbrev cX5_readWorks : ByteArray := prog_7_method_6_code
def yX5_readWorks : MethodName := ⟨RX5, "readWorks", "()Z"⟩
abbrev cX5_begin : ByteArray := prog_7_method_7_code
def yX5_begin : MethodName := ⟨RX5, "begin", "()V"⟩
abbrev cX5_isComplete : ByteArray := prog_7_method_8_code
def yX5_isComplete : MethodName := ⟨RX5, "isComplete", "()Z"⟩
abbrev cX5_readStroke : ByteArray := prog_7_method_9_code
def yX5_readStroke : MethodName := ⟨RX5, "readStroke", "()V"⟩
abbrev cX5_readPart : ByteArray := prog_7_method_10_code
def yX5_readPart : MethodName := ⟨RX5, "readPart", "()V"⟩
abbrev cX5_codeHere : ByteArray := prog_7_method_11_code
def yX5_codeHere : MethodName := ⟨RX5, "codeHere", "()I"⟩
abbrev cX5_digitHere : ByteArray := prog_7_method_12_code
def yX5_digitHere : MethodName := ⟨RX5, "digitHere", "()I"⟩
abbrev cX5_skip : ByteArray := prog_7_method_13_code
def yX5_skip : MethodName := ⟨RX5, "skip", "(I)Z"⟩
abbrev cX5_need : ByteArray := prog_7_method_14_code
def yX5_need : MethodName := ⟨RX5, "need", "(I)V"⟩
abbrev cX5_readNumber : ByteArray := prog_7_method_15_code
def yX5_readNumber : MethodName := ⟨RX5, "readNumber", "(II)I"⟩
def RX6 : String := "SlantOaths"
def TX6 : u_T := fun k => match k with
  | 0 => ("SlantOaths", "text", "LSlantOaths$Text;", true)
  | 1 => ("SlantOaths", "table", "LSlantOaths$Table;", true)
  | 2 => ("SlantOaths", "history", "LSlantOaths$History;", true)
  | 3 => ("SlantOaths", "snapshot", "LSlantOaths$Table;", true)
  | _ => ("SlantOaths", "hasSnapshot", "Z", false)
def tyX6 : Nat → FieldType := fun k => match k with
  | 0 => .object "SlantOaths$Text"
  | 1 => .object "SlantOaths$Table"
  | 2 => .object "SlantOaths$History"
  | 3 => .object "SlantOaths$Table"
  | _ => .boolean
abbrev wsX60 : List Cond := u_ws RX6 TX6 5
theorem nmX6 : ∀ a, a < 5 → ∀ b, b < 5 → a ≠ b → (TX6 a).2.1 ≠ (TX6 b).2.1 := by decide +kernel
theorem tyX6_ok : ∀ k, k < 5 → parseFieldDescriptor (TX6 k).2.2.1 = some (tyX6 k) := by decide +kernel
abbrev cX6_init : ByteArray := prog_1_method_1_code
def yX6_init : MethodName := ⟨RX6, "<init>", "()V"⟩
abbrev cX6_lay : ByteArray := prog_1_method_2_code
def yX6_lay : MethodName := ⟨RX6, "lay", "(I)I"⟩
abbrev cX6_drop : ByteArray := prog_1_method_3_code
def yX6_drop : MethodName := ⟨RX6, "drop", "(I)I"⟩
abbrev cX6_pass : ByteArray := prog_1_method_4_code
def yX6_pass : MethodName := ⟨RX6, "pass", "(I)I"⟩
abbrev cX6_set : ByteArray := prog_1_method_5_code
def yX6_set : MethodName := ⟨RX6, "set", "(II)I"⟩
abbrev cX6_swear : ByteArray := prog_1_method_6_code
def yX6_swear : MethodName := ⟨RX6, "swear", "(IIZ)I"⟩
abbrev cX6_recant : ByteArray := prog_1_method_7_code
def yX6_recant : MethodName := ⟨RX6, "recant", "(II)I"⟩
abbrev cX6_append : ByteArray := prog_1_method_8_code
def yX6_append : MethodName := ⟨RX6, "append", "(I)I"⟩
abbrev cX6_clearBuffer : ByteArray := prog_1_method_9_code
def yX6_clearBuffer : MethodName := ⟨RX6, "clearBuffer", "()I"⟩
abbrev cX6_firstError : ByteArray := prog_1_method_10_code
def yX6_firstError : MethodName := ⟨RX6, "firstError", "(Z)I"⟩
abbrev cX6_work : ByteArray := prog_1_method_11_code
def yX6_work : MethodName := ⟨RX6, "work", "()I"⟩
abbrev cX6_stopped : ByteArray := prog_1_method_12_code
def yX6_stopped : MethodName := ⟨RX6, "stopped", "(I)I"⟩
abbrev cX6_undo : ByteArray := prog_1_method_13_code
def yX6_undo : MethodName := ⟨RX6, "undo", "()I"⟩
abbrev cX6_keep : ByteArray := prog_1_method_14_code
def yX6_keep : MethodName := ⟨RX6, "keep", "()I"⟩
abbrev cX6_restore : ByteArray := prog_1_method_15_code
def yX6_restore : MethodName := ⟨RX6, "restore", "()I"⟩
abbrev cX6_sheet : ByteArray := prog_1_method_16_code
def yX6_sheet : MethodName := ⟨RX6, "sheet", "(II)I"⟩
abbrev cX6_stroke : ByteArray := prog_1_method_17_code
def yX6_stroke : MethodName := ⟨RX6, "stroke", "(III)I"⟩
abbrev cX6_mark : ByteArray := prog_1_method_18_code
def yX6_mark : MethodName := ⟨RX6, "mark", "(II)I"⟩
abbrev cX6_compare : ByteArray := prog_1_method_19_code
def yX6_compare : MethodName := ⟨RX6, "compare", "(III)I"⟩
abbrev cX6_oath : ByteArray := prog_1_method_20_code
def yX6_oath : MethodName := ⟨RX6, "oath", "(II)I"⟩
abbrev cX6_count : ByteArray := prog_1_method_21_code
def yX6_count : MethodName := ⟨RX6, "count", "(I)I"⟩
abbrev cX6_whyNot : ByteArray := prog_1_method_22_code
def yX6_whyNot : MethodName := ⟨RX6, "whyNot", "(IIZ)I"⟩
abbrev cX6_nearest : ByteArray := prog_1_method_23_code
def yX6_nearest : MethodName := ⟨RX6, "nearest", "(I)I"⟩
abbrev cX6_toleranceFor : ByteArray := prog_1_method_24_code
def yX6_toleranceFor : MethodName := ⟨RX6, "toleranceFor", "(III)I"⟩
abbrev cX6_ifPassed : ByteArray := prog_1_method_25_code
def yX6_ifPassed : MethodName := ⟨RX6, "ifPassed", "(III)I"⟩
abbrev cX6_handShare : ByteArray := prog_1_method_26_code
def yX6_handShare : MethodName := ⟨RX6, "handShare", "()D"⟩
abbrev cX6_digest : ByteArray := prog_1_method_27_code
def yX6_digest : MethodName := ⟨RX6, "digest", "()J"⟩
abbrev cX6_isThere : ByteArray := prog_1_method_28_code
def yX6_isThere : MethodName := ⟨RX6, "isThere", "(I)Z"⟩
abbrev cX6_areThere : ByteArray := prog_1_method_29_code
def yX6_areThere : MethodName := ⟨RX6, "areThere", "(II)Z"⟩
abbrev cX6_doPart : ByteArray := prog_1_method_30_code
def yX6_doPart : MethodName := ⟨RX6, "doPart", "(I)Z"⟩
abbrev cX6_swearPart : ByteArray := prog_1_method_31_code
def yX6_swearPart : MethodName := ⟨RX6, "swearPart", "(IIZ)I"⟩
abbrev cX6_toldCount : ByteArray := prog_1_method_32_code
def yX6_toldCount : MethodName := ⟨RX6, "toldCount", "(I)I"⟩
abbrev cX6_mixSheet : ByteArray := prog_1_method_33_code
def yX6_mixSheet : MethodName := ⟨RX6, "mixSheet", "(JI)J"⟩
abbrev cX6_mixPair : ByteArray := prog_1_method_34_code
def yX6_mixPair : MethodName := ⟨RX6, "mixPair", "(JII)J"⟩
abbrev cX6_mix : ByteArray := prog_1_method_35_code
def yX6_mix : MethodName := ⟨RX6, "mix", "(JJ)J"⟩
abbrev cX6_bitsOf : ByteArray := prog_1_method_36_code
def yX6_bitsOf : MethodName := ⟨RX6, "bitsOf", "(D)J"⟩
def RX7 : String := "SlantOathsModel"
def TX7 : u_T := fun k => match k with
  | 0 => ("SlantOathsModel", "thrown", "I", false)
  | 1 => ("SlantOathsModel", "state", "[I", true)
  | 2 => ("SlantOathsModel", "spare", "[I", true)
  | 3 => ("SlantOathsModel", "saved", "[I", true)
  | 4 => ("SlantOathsModel", "savedMany", "I", false)
  | 5 => ("SlantOathsModel", "snapshot", "[I", true)
  | 6 => ("SlantOathsModel", "hasSnapshot", "Z", false)
  | 7 => ("SlantOathsModel", "buffer", "[I", true)
  | 8 => ("SlantOathsModel", "length", "I", false)
  | 9 => ("SlantOathsModel", "at", "I", false)
  | 10 => ("SlantOathsModel", "sign", "I", false)
  | 11 => ("SlantOathsModel", "first", "I", false)
  | 12 => ("SlantOathsModel", "second", "I", false)
  | 13 => ("SlantOathsModel", "strokes", "[I", true)
  | 14 => ("SlantOathsModel", "many", "I", false)
  | 15 => ("SlantOathsModel", "hand", "[I", true)
  | _ => ("SlantOathsModel", "hash", "J", false)
def tyX7 : Nat → FieldType := fun k => match k with
  | 0 => .int
  | 1 => .array .int
  | 2 => .array .int
  | 3 => .array .int
  | 4 => .int
  | 5 => .array .int
  | 6 => .boolean
  | 7 => .array .int
  | 8 => .int
  | 9 => .int
  | 10 => .int
  | 11 => .int
  | 12 => .int
  | 13 => .array .int
  | 14 => .int
  | 15 => .array .int
  | _ => .long
abbrev wsX70 : List Cond := u_ws RX7 TX7 17
theorem nmX7 : ∀ a, a < 17 → ∀ b, b < 17 → a ≠ b → (TX7 a).2.1 ≠ (TX7 b).2.1 := by decide +kernel
theorem tyX7_ok : ∀ k, k < 17 → parseFieldDescriptor (TX7 k).2.2.1 = some (tyX7 k) := by decide +kernel
abbrev cX7_init : ByteArray := prog_9_method_1_code
def yX7_init : MethodName := ⟨RX7, "<init>", "()V"⟩
abbrev cX7_thrown : ByteArray := prog_9_method_2_code
def yX7_thrown : MethodName := ⟨RX7, "thrown", "()I"⟩
abbrev cX7_fails : ByteArray := prog_9_method_3_code
def yX7_fails : MethodName := ⟨RX7, "fails", "(I)I"⟩
abbrev cX7_within : ByteArray := prog_9_method_4_code
def yX7_within : MethodName := ⟨RX7, "within", "(III)Z"⟩
abbrev cX7_sizeOf : ByteArray := prog_9_method_5_code
def yX7_sizeOf : MethodName := ⟨RX7, "sizeOf", "(I)I"⟩
abbrev cX7_isSheet : ByteArray := prog_9_method_6_code
def yX7_isSheet : MethodName := ⟨RX7, "isSheet", "(I)Z"⟩
abbrev cX7_of : ByteArray := prog_9_method_7_code
def yX7_of : MethodName := ⟨RX7, "of", "(II)I"⟩
abbrev cX7_ofStroke : ByteArray := prog_9_method_8_code
def yX7_ofStroke : MethodName := ⟨RX7, "ofStroke", "(III)I"⟩
abbrev cX7_ofOath : ByteArray := prog_9_method_9_code
def yX7_ofOath : MethodName := ⟨RX7, "ofOath", "(II)I"⟩
abbrev cX7_save : ByteArray := prog_9_method_10_code
def yX7_save : MethodName := ⟨RX7, "save", "()V"⟩
abbrev cX7_undo : ByteArray := prog_9_method_11_code
def yX7_undo : MethodName := ⟨RX7, "undo", "()I"⟩
abbrev cX7_keep : ByteArray := prog_9_method_12_code
def yX7_keep : MethodName := ⟨RX7, "keep", "()I"⟩
abbrev cX7_restore : ByteArray := prog_9_method_13_code
def yX7_restore : MethodName := ⟨RX7, "restore", "()I"⟩
abbrev cX7_putAside : ByteArray := prog_9_method_14_code
def yX7_putAside : MethodName := ⟨RX7, "putAside", "()V"⟩
abbrev cX7_takeBack : ByteArray := prog_9_method_15_code
def yX7_takeBack : MethodName := ⟨RX7, "takeBack", "()V"⟩
abbrev cX7_divided : ByteArray := prog_9_method_16_code
def yX7_divided : MethodName := ⟨RX7, "divided", "(II)I"⟩
abbrev cX7_sumOf : ByteArray := prog_9_method_17_code
def yX7_sumOf : MethodName := ⟨RX7, "sumOf", "(II)I"⟩
abbrev cX7_spread : ByteArray := prog_9_method_18_code
def yX7_spread : MethodName := ⟨RX7, "spread", "(I)I"⟩
abbrev cX7_loopHeight : ByteArray := prog_9_method_19_code
def yX7_loopHeight : MethodName := ⟨RX7, "loopHeight", "(I)I"⟩
abbrev cX7_unrest : ByteArray := prog_9_method_20_code
def yX7_unrest : MethodName := ⟨RX7, "unrest", "(I)I"⟩
abbrev cX7_markOf : ByteArray := prog_9_method_21_code
def yX7_markOf : MethodName := ⟨RX7, "markOf", "(II)I"⟩
abbrev cX7_hasFaded : ByteArray := prog_9_method_22_code
def yX7_hasFaded : MethodName := ⟨RX7, "hasFaded", "(I)Z"⟩
abbrev cX7_isGone : ByteArray := prog_9_method_23_code
def yX7_isGone : MethodName := ⟨RX7, "isGone", "(III)Z"⟩
abbrev cX7_differ : ByteArray := prog_9_method_24_code
def yX7_differ : MethodName := ⟨RX7, "differ", "(III)I"⟩
abbrev cX7_agreeing : ByteArray := prog_9_method_25_code
def yX7_agreeing : MethodName := ⟨RX7, "agreeing", "(II)I"⟩
abbrev cX7_ones : ByteArray := prog_9_method_26_code
def yX7_ones : MethodName := ⟨RX7, "ones", "(I)I"⟩
abbrev cX7_likeness : ByteArray := prog_9_method_27_code
def yX7_likeness : MethodName := ⟨RX7, "likeness", "(II)I"⟩
abbrev cX7_trembles : ByteArray := prog_9_method_28_code
def yX7_trembles : MethodName := ⟨RX7, "trembles", "(I)Z"⟩
abbrev cX7_join : ByteArray := prog_9_method_29_code
def yX7_join : MethodName := ⟨RX7, "join", "(II)V"⟩
abbrev cX7_layHands : ByteArray := prog_9_method_30_code
def yX7_layHands : MethodName := ⟨RX7, "layHands", "(I)V"⟩
abbrev cX7_hands : ByteArray := prog_9_method_31_code
def yX7_hands : MethodName := ⟨RX7, "hands", "()I"⟩
abbrev cX7_areOfOne : ByteArray := prog_9_method_32_code
def yX7_areOfOne : MethodName := ⟨RX7, "areOfOne", "(II)Z"⟩
abbrev cX7_findOath : ByteArray := prog_9_method_33_code
def yX7_findOath : MethodName := ⟨RX7, "findOath", "(II)I"⟩
abbrev cX7_breaks : ByteArray := prog_9_method_34_code
def yX7_breaks : MethodName := ⟨RX7, "breaks", "(II)Z"⟩
abbrev cX7_whyNotSworn : ByteArray := prog_9_method_35_code
def yX7_whyNotSworn : MethodName := ⟨RX7, "whyNotSworn", "(IIZ)I"⟩
abbrev cX7_swears : ByteArray := prog_9_method_36_code
def yX7_swears : MethodName := ⟨RX7, "swears", "(IIZ)I"⟩
abbrev cX7_dropOath : ByteArray := prog_9_method_37_code
def yX7_dropOath : MethodName := ⟨RX7, "dropOath", "(I)V"⟩
abbrev cX7_holds : ByteArray := prog_9_method_38_code
def yX7_holds : MethodName := ⟨RX7, "holds", "(I)Z"⟩
abbrev cX7_drops : ByteArray := prog_9_method_39_code
def yX7_drops : MethodName := ⟨RX7, "drops", "(I)I"⟩
abbrev cX7_passes : ByteArray := prog_9_method_40_code
def yX7_passes : MethodName := ⟨RX7, "passes", "(I)I"⟩
abbrev cX7_lay : ByteArray := prog_9_method_41_code
def yX7_lay : MethodName := ⟨RX7, "lay", "(I)I"⟩
abbrev cX7_drop : ByteArray := prog_9_method_42_code
def yX7_drop : MethodName := ⟨RX7, "drop", "(I)I"⟩
abbrev cX7_pass : ByteArray := prog_9_method_43_code
def yX7_pass : MethodName := ⟨RX7, "pass", "(I)I"⟩
abbrev cX7_mostOf : ByteArray := prog_9_method_44_code
def yX7_mostOf : MethodName := ⟨RX7, "mostOf", "(I)I"⟩
abbrev cX7_set : ByteArray := prog_9_method_45_code
def yX7_set : MethodName := ⟨RX7, "set", "(II)I"⟩
abbrev cX7_swear : ByteArray := prog_9_method_46_code
def yX7_swear : MethodName := ⟨RX7, "swear", "(IIZ)I"⟩
abbrev cX7_recant : ByteArray := prog_9_method_47_code
def yX7_recant : MethodName := ⟨RX7, "recant", "(II)I"⟩
abbrev cX7_append : ByteArray := prog_9_method_48_code
def yX7_append : MethodName := ⟨RX7, "append", "(I)I"⟩
abbrev cX7_clearBuffer : ByteArray := prog_9_method_49_code
def yX7_clearBuffer : MethodName := ⟨RX7, "clearBuffer", "()I"⟩
abbrev cX7_next : ByteArray := prog_9_method_50_code
def yX7_next : MethodName := ⟨RX7, "next", "()I"⟩
abbrev cX7_takes : ByteArray := prog_9_method_51_code
def yX7_takes : MethodName := ⟨RX7, "takes", "(I)Z"⟩
abbrev cX7_readNumber : ByteArray := prog_9_method_52_code
def yX7_readNumber : MethodName := ⟨RX7, "readNumber", "(II)I"⟩
abbrev cX7_readsStroke : ByteArray := prog_9_method_53_code
def yX7_readsStroke : MethodName := ⟨RX7, "readsStroke", "()Z"⟩
abbrev cX7_findSheetError : ByteArray := prog_9_method_54_code
def yX7_findSheetError : MethodName := ⟨RX7, "findSheetError", "()I"⟩
abbrev cX7_isSheetText : ByteArray := prog_9_method_55_code
def yX7_isSheetText : MethodName := ⟨RX7, "isSheetText", "()Z"⟩
abbrev cX7_readsPart : ByteArray := prog_9_method_56_code
def yX7_readsPart : MethodName := ⟨RX7, "readsPart", "()Z"⟩
abbrev cX7_findWorksError : ByteArray := prog_9_method_57_code
def yX7_findWorksError : MethodName := ⟨RX7, "findWorksError", "()I"⟩
abbrev cX7_firstError : ByteArray := prog_9_method_58_code
def yX7_firstError : MethodName := ⟨RX7, "firstError", "(Z)I"⟩
abbrev cX7_whyNotPart : ByteArray := prog_9_method_59_code
def yX7_whyNotPart : MethodName := ⟨RX7, "whyNotPart", "()I"⟩
abbrev cX7_doPart : ByteArray := prog_9_method_60_code
def yX7_doPart : MethodName := ⟨RX7, "doPart", "()V"⟩
abbrev cX7_work : ByteArray := prog_9_method_61_code
def yX7_work : MethodName := ⟨RX7, "work", "()I"⟩
abbrev cX7_stopped : ByteArray := prog_9_method_62_code
def yX7_stopped : MethodName := ⟨RX7, "stopped", "(I)I"⟩
abbrev cX7_handOf : ByteArray := prog_9_method_63_code
def yX7_handOf : MethodName := ⟨RX7, "handOf", "(I)I"⟩
abbrev cX7_oathsOf : ByteArray := prog_9_method_64_code
def yX7_oathsOf : MethodName := ⟨RX7, "oathsOf", "(I)I"⟩
abbrev cX7_tellsSheet : ByteArray := prog_9_method_65_code
def yX7_tellsSheet : MethodName := ⟨RX7, "tellsSheet", "(II)I"⟩
abbrev cX7_sheet : ByteArray := prog_9_method_66_code
def yX7_sheet : MethodName := ⟨RX7, "sheet", "(II)I"⟩
abbrev cX7_tellsStroke : ByteArray := prog_9_method_67_code
def yX7_tellsStroke : MethodName := ⟨RX7, "tellsStroke", "(III)I"⟩
abbrev cX7_stroke : ByteArray := prog_9_method_68_code
def yX7_stroke : MethodName := ⟨RX7, "stroke", "(III)I"⟩
abbrev cX7_mark : ByteArray := prog_9_method_69_code
def yX7_mark : MethodName := ⟨RX7, "mark", "(II)I"⟩
abbrev cX7_tellsOathOf : ByteArray := prog_9_method_70_code
def yX7_tellsOathOf : MethodName := ⟨RX7, "tellsOathOf", "(II)I"⟩
abbrev cX7_compares : ByteArray := prog_9_method_71_code
def yX7_compares : MethodName := ⟨RX7, "compares", "(III)I"⟩
abbrev cX7_compare : ByteArray := prog_9_method_72_code
def yX7_compare : MethodName := ⟨RX7, "compare", "(III)I"⟩
abbrev cX7_tellsOath : ByteArray := prog_9_method_73_code
def yX7_tellsOath : MethodName := ⟨RX7, "tellsOath", "(II)I"⟩
abbrev cX7_oath : ByteArray := prog_9_method_74_code
def yX7_oath : MethodName := ⟨RX7, "oath", "(II)I"⟩
abbrev cX7_likeOaths : ByteArray := prog_9_method_75_code
def yX7_likeOaths : MethodName := ⟨RX7, "likeOaths", "()I"⟩
abbrev cX7_mostOfHand : ByteArray := prog_9_method_76_code
def yX7_mostOfHand : MethodName := ⟨RX7, "mostOfHand", "()I"⟩
abbrev cX7_trembling : ByteArray := prog_9_method_77_code
def yX7_trembling : MethodName := ⟨RX7, "trembling", "()I"⟩
abbrev cX7_likePairs : ByteArray := prog_9_method_78_code
def yX7_likePairs : MethodName := ⟨RX7, "likePairs", "()I"⟩
abbrev cX7_tellsCount : ByteArray := prog_9_method_79_code
def yX7_tellsCount : MethodName := ⟨RX7, "tellsCount", "(I)I"⟩
abbrev cX7_count : ByteArray := prog_9_method_80_code
def yX7_count : MethodName := ⟨RX7, "count", "(I)I"⟩
abbrev cX7_whyNot : ByteArray := prog_9_method_81_code
def yX7_whyNot : MethodName := ⟨RX7, "whyNot", "(IIZ)I"⟩
abbrev cX7_mostAlike : ByteArray := prog_9_method_82_code
def yX7_mostAlike : MethodName := ⟨RX7, "mostAlike", "(I)I"⟩
abbrev cX7_nearest : ByteArray := prog_9_method_83_code
def yX7_nearest : MethodName := ⟨RX7, "nearest", "(I)I"⟩
abbrev cX7_tolerance : ByteArray := prog_9_method_84_code
def yX7_tolerance : MethodName := ⟨RX7, "tolerance", "(III)I"⟩
abbrev cX7_toleranceFor : ByteArray := prog_9_method_85_code
def yX7_toleranceFor : MethodName := ⟨RX7, "toleranceFor", "(III)I"⟩
abbrev cX7_wouldPass : ByteArray := prog_9_method_86_code
def yX7_wouldPass : MethodName := ⟨RX7, "wouldPass", "(III)I"⟩
abbrev cX7_ifPassed : ByteArray := prog_9_method_87_code
def yX7_ifPassed : MethodName := ⟨RX7, "ifPassed", "(III)I"⟩
abbrev cX7_share : ByteArray := prog_9_method_88_code
def yX7_share : MethodName := ⟨RX7, "share", "()D"⟩
abbrev cX7_handShare : ByteArray := prog_9_method_89_code
def yX7_handShare : MethodName := ⟨RX7, "handShare", "()D"⟩
abbrev cX7_mix : ByteArray := prog_9_method_90_code
def yX7_mix : MethodName := ⟨RX7, "mix", "(J)V"⟩
abbrev cX7_mixSheet : ByteArray := prog_9_method_91_code
def yX7_mixSheet : MethodName := ⟨RX7, "mixSheet", "(I)V"⟩
abbrev cX7_digest : ByteArray := prog_9_method_92_code
def yX7_digest : MethodName := ⟨RX7, "digest", "()J"⟩
def RJxe99ae : String := "java/lang/Double"
def TJxe99ae : u_T := fun k => match k with
  | _ => ("", "", "", false)
def tyJxe99ae : Nat → FieldType := fun k => match k with
  | _ => .int
abbrev wsJxe99ae0 : List Cond := u_ws RJxe99ae TJxe99ae 0
theorem nmJxe99ae : ∀ a, a < 0 → ∀ b, b < 0 → a ≠ b → (TJxe99ae a).2.1 ≠ (TJxe99ae b).2.1 := by decide +kernel
theorem tyJxe99ae_ok : ∀ k, k < 0 → parseFieldDescriptor (TJxe99ae k).2.2.1 = some (tyJxe99ae k) := by decide +kernel
abbrev cJxe99ae_isNaN_b9ae7 : ByteArray := prog_10_method_6_code
def yJxe99ae_isNaN_b9ae7 : MethodName := ⟨RJxe99ae, "isNaN", "(D)Z"⟩
abbrev cJxe99ae_doubleToLongBits_ccdee : ByteArray := prog_10_method_23_code
def yJxe99ae_doubleToLongBits_ccdee : MethodName := ⟨RJxe99ae, "doubleToLongBits", "(D)J"⟩
def RJ6 : String := "java/lang/Integer"
def TJ6 : u_T := fun k => match k with
  | _ => ("", "", "", false)
def tyJ6 : Nat → FieldType := fun k => match k with
  | _ => .int
abbrev wsJ60 : List Cond := u_ws RJ6 TJ6 0
theorem nmJ6 : ∀ a, a < 0 → ∀ b, b < 0 → a ≠ b → (TJ6 a).2.1 ≠ (TJ6 b).2.1 := by decide +kernel
theorem tyJ6_ok : ∀ k, k < 0 → parseFieldDescriptor (TJ6 k).2.2.1 = some (tyJ6 k) := by decide +kernel
abbrev cJ6_bitCount_0f7a4 : ByteArray := prog_15_method_49_code
def yJ6_bitCount_0f7a4 : MethodName := ⟨RJ6, "bitCount", "(I)I"⟩
def RJ9 : String := "java/lang/Math"
def TJ9 : u_T := fun k => match k with
  | _ => ("", "", "", false)
def tyJ9 : Nat → FieldType := fun k => match k with
  | _ => .int
abbrev wsJ90 : List Cond := u_ws RJ9 TJ9 0
theorem nmJ9 : ∀ a, a < 0 → ∀ b, b < 0 → a ≠ b → (TJ9 a).2.1 ≠ (TJ9 b).2.1 := by decide +kernel
theorem tyJ9_ok : ∀ k, k < 0 → parseFieldDescriptor (TJ9 k).2.2.1 = some (tyJ9 k) := by decide +kernel
abbrev cJ9_floorDiv_7cf53 : ByteArray := prog_16_method_47_code
def yJ9_floorDiv_7cf53 : MethodName := ⟨RJ9, "floorDiv", "(II)I"⟩
abbrev cJ9_abs_0f7a4 : ByteArray := prog_16_method_59_code
def yJ9_abs_0f7a4 : MethodName := ⟨RJ9, "abs", "(I)I"⟩
abbrev cJ9_max_7cf53 : ByteArray := prog_16_method_65_code
def yJ9_max_7cf53 : MethodName := ⟨RJ9, "max", "(II)I"⟩
abbrev cJ9_min_7cf53 : ByteArray := prog_16_method_69_code
def yJ9_min_7cf53 : MethodName := ⟨RJ9, "min", "(II)I"⟩
def RJ0 : String := "java/lang/String"
def TJ0 : u_T := fun k => match k with
  | _ => ("", "", "", false)
def tyJ0 : Nat → FieldType := fun k => match k with
  | _ => .int
abbrev wsJ00 : List Cond := u_ws RJ0 TJ0 0
theorem nmJ0 : ∀ a, a < 0 → ∀ b, b < 0 → a ≠ b → (TJ0 a).2.1 ≠ (TJ0 b).2.1 := by decide +kernel
theorem tyJ0_ok : ∀ k, k < 0 → parseFieldDescriptor (TJ0 k).2.2.1 = some (tyJ0 k) := by decide +kernel
def RL : String := "SlantOathsLaw"
abbrev cL_lay : ByteArray := method_3_code
def yL_lay : MethodName := ⟨RL, "lay", "(LSlantOaths;I[J)I"⟩
abbrev cL_drop : ByteArray := method_4_code
def yL_drop : MethodName := ⟨RL, "drop", "(LSlantOaths;I[J)I"⟩
abbrev cL_pass : ByteArray := method_5_code
def yL_pass : MethodName := ⟨RL, "pass", "(LSlantOaths;I[J)I"⟩
abbrev cL_set : ByteArray := method_6_code
def yL_set : MethodName := ⟨RL, "set", "(LSlantOaths;II[J)I"⟩
abbrev cL_swear : ByteArray := method_7_code
def yL_swear : MethodName := ⟨RL, "swear", "(LSlantOaths;IIZ[J)I"⟩
abbrev cL_recant : ByteArray := method_8_code
def yL_recant : MethodName := ⟨RL, "recant", "(LSlantOaths;II[J)I"⟩
abbrev cL_append : ByteArray := method_9_code
def yL_append : MethodName := ⟨RL, "append", "(LSlantOaths;I[J)I"⟩
abbrev cL_work : ByteArray := method_10_code
def yL_work : MethodName := ⟨RL, "work", "(LSlantOaths;[J)I"⟩
abbrev cL_stopped : ByteArray := method_11_code
def yL_stopped : MethodName := ⟨RL, "stopped", "(LSlantOaths;I[J)I"⟩
abbrev cL_undo : ByteArray := method_12_code
def yL_undo : MethodName := ⟨RL, "undo", "(LSlantOaths;[J)I"⟩
abbrev cL_restore : ByteArray := method_13_code
def yL_restore : MethodName := ⟨RL, "restore", "(LSlantOaths;[J)I"⟩
abbrev cL_sheet : ByteArray := method_14_code
def yL_sheet : MethodName := ⟨RL, "sheet", "(LSlantOaths;II[J)I"⟩
abbrev cL_stroke : ByteArray := method_15_code
def yL_stroke : MethodName := ⟨RL, "stroke", "(LSlantOaths;III[J)I"⟩
abbrev cL_mark : ByteArray := method_16_code
def yL_mark : MethodName := ⟨RL, "mark", "(LSlantOaths;II[J)I"⟩
abbrev cL_compare : ByteArray := method_17_code
def yL_compare : MethodName := ⟨RL, "compare", "(LSlantOaths;III[J)I"⟩
abbrev cL_oath : ByteArray := method_18_code
def yL_oath : MethodName := ⟨RL, "oath", "(LSlantOaths;II[J)I"⟩
abbrev cL_count : ByteArray := method_19_code
def yL_count : MethodName := ⟨RL, "count", "(LSlantOaths;I[J)I"⟩
abbrev cL_whyNot : ByteArray := method_20_code
def yL_whyNot : MethodName := ⟨RL, "whyNot", "(LSlantOaths;IIZ[J)I"⟩
abbrev cL_nearest : ByteArray := method_21_code
def yL_nearest : MethodName := ⟨RL, "nearest", "(LSlantOaths;I[J)I"⟩
abbrev cL_toleranceFor : ByteArray := method_22_code
def yL_toleranceFor : MethodName := ⟨RL, "toleranceFor", "(LSlantOaths;III[J)I"⟩
abbrev cL_ifPassed : ByteArray := method_23_code
def yL_ifPassed : MethodName := ⟨RL, "ifPassed", "(LSlantOaths;III[J)I"⟩
abbrev cL_law : ByteArray := code
def yL_law : MethodName := ⟨RL, "law", "([I)Z"⟩
def wsL_law0_r1 : List Cond := [Cond.classLink RL 8 RX6, Cond.instantiable RX6 5, Cond.initialized RX6, Cond.classLink RL 84 RX7, Cond.instantiable RX7 17, Cond.initialized RX7, Cond.arrayClass .long, Cond.methodLink RL 83 yX6_init, Cond.instanceMethod yX6_init, Cond.code yX6_init cX6_init 1 none, Cond.methodLink RX6 1 objectInit, Cond.instanceMethod objectInit, Cond.code objectInit ⟨#[0xb1]⟩ 1 none, Cond.classLink RX6 7 RX5, Cond.instantiable RX5 10, Cond.initialized RX5, Cond.fieldLink RX6 10 "SlantOaths" "text" "LSlantOaths$Text;", Cond.classLink RX6 16 RX4, Cond.instantiable RX4 8, Cond.initialized RX4, Cond.fieldLink RX6 19 "SlantOaths" "table" "LSlantOaths$Table;", Cond.classLink RX6 23 RX0, Cond.instantiable RX0 3, Cond.initialized RX0]
def wsL_law0_r2 : List Cond := [Cond.fieldLink RX6 26 "SlantOaths" "history" "LSlantOaths$History;", Cond.fieldLink RX6 30 "SlantOaths" "snapshot" "LSlantOaths$Table;", Cond.fieldLink RX6 33 "SlantOaths" "hasSnapshot" "Z", Cond.instanceMethod yX5_init, Cond.code yX5_init cX5_init 1 none, Cond.methodLink RX5 3 objectInit, Cond.classLink RX5 9 RX2, Cond.instantiable RX2 1, Cond.initialized RX2, Cond.fieldLink RX5 14 "SlantOaths$Text" "codes" "LSlantOaths$Row;", Cond.fieldLink RX5 20 "SlantOaths$Text" "numbers" "LSlantOaths$Row;", Cond.fieldLink RX5 23 "SlantOaths$Text" "kinds" "LSlantOaths$Row;", Cond.fieldLink RX5 26 "SlantOaths$Text" "firsts" "LSlantOaths$Row;", Cond.fieldLink RX5 29 "SlantOaths$Text" "seconds" "LSlantOaths$Row;", Cond.methodLink RX5 11 yX2_init, Cond.instanceMethod yX2_init, Cond.code yX2_init cX2_init 2 none, Cond.methodLink RX2 1 objectInit, Cond.arrayClass .int, Cond.fieldLink RX2 7 "SlantOaths$Row" "cells" "[I", Cond.methodLink RX6 18 yX4_init, Cond.instanceMethod yX4_init, Cond.code yX4_init cX4_init 2 none, Cond.methodLink RX4 3 objectInit]
def wsL_law0_r3 : List Cond := [Cond.classLink RX4 9 RX3, Cond.instantiable RX3 3, Cond.initialized RX3, Cond.fieldLink RX4 14 "SlantOaths$Table" "blank" "LSlantOaths$Sheet;", Cond.fieldLink RX4 20 "SlantOaths$Table" "sheets" "[LSlantOaths$Sheet;", Cond.classLink RX4 24 RX2, Cond.fieldLink RX4 29 "SlantOaths$Table" "ages" "LSlantOaths$Row;", Cond.classLink RX4 33 RX1, Cond.instantiable RX1 6, Cond.initialized RX1, Cond.fieldLink RX4 36 "SlantOaths$Table" "oaths" "LSlantOaths$Oaths;", Cond.fieldLink RX4 40 "SlantOaths$Table" "settings" "LSlantOaths$Row;", Cond.fieldLink RX4 43 "SlantOaths$Table" "stopPart" "I", Cond.fieldLink RX4 47 "SlantOaths$Table" "stopReason" "I", Cond.methodLink RX4 11 yX3_init, Cond.instanceMethod yX3_init, Cond.code yX3_init cX3_init 3 none, Cond.methodLink RX3 3 objectInit, Cond.classLink RX3 9 RX2, Cond.fieldLink RX3 14 "SlantOaths$Sheet" "marks" "LSlantOaths$Row;", Cond.fieldLink RX3 20 "SlantOaths$Sheet" "strokes" "I", Cond.fieldLink RX3 24 "SlantOaths$Sheet" "numbers" "LSlantOaths$Row;", Cond.methodLink RX3 11 yX2_init, Cond.methodLink RX3 27 yX2_copyFrom]
def wsL_law0_r4 : List Cond := [Cond.instanceMethod yX2_copyFrom, Cond.selects RX2 yX2_copyFrom yX2_copyFrom, Cond.code yX2_copyFrom cX2_copyFrom 3 none, Cond.methodLink RX4 26 yX2_init, Cond.instanceMethod yX1_init, Cond.code yX1_init cX1_init 1 none, Cond.methodLink RX1 3 objectInit, Cond.classLink RX1 9 RX2, Cond.fieldLink RX1 14 "SlantOaths$Oaths" "firsts" "LSlantOaths$Row;", Cond.fieldLink RX1 20 "SlantOaths$Oaths" "seconds" "LSlantOaths$Row;", Cond.fieldLink RX1 23 "SlantOaths$Oaths" "likes" "LSlantOaths$Row;", Cond.fieldLink RX1 26 "SlantOaths$Oaths" "hands" "LSlantOaths$Row;", Cond.methodLink RX1 11 yX2_init, Cond.methodLink RX4 54 yX2_put, Cond.instanceMethod yX2_put, Cond.selects RX2 yX2_put yX2_put, Cond.code yX2_put cX2_put 3 none, Cond.instanceMethod yX1_joinHands, Cond.selects RX1 yX1_joinHands yX1_joinHands, Cond.code yX1_joinHands cX1_joinHands 2 none, Cond.fieldLink RX1 29 "SlantOaths$Oaths" "size" "I", Cond.methodLink RX1 40 yX2_put, Cond.methodLink RX1 54 yX2_at, Cond.instanceMethod yX2_at]
def wsL_law0_r5 : List Cond := [Cond.selects RX2 yX2_at yX2_at, Cond.code yX2_at cX2_at 2 (some .int), Cond.methodLink RX1 79 yX1_joinTwo, Cond.instanceMethod yX1_joinTwo, Cond.selects RX1 yX1_joinTwo yX1_joinTwo, Cond.code yX1_joinTwo cX1_joinTwo 5 none, Cond.methodLink RX1 82 Lib.Math.min.name, Cond.static Lib.Math.min.name, Cond.initialized "java/lang/Math", Cond.code Lib.Math.min.name Lib.Math.min.code 2 (some .int), Cond.methodLink RX6 25 yX0_init, Cond.instanceMethod yX0_init, Cond.code yX0_init cX0_init 2 none, Cond.methodLink RX0 3 objectInit, Cond.classLink RX0 9 RX4, Cond.fieldLink RX0 11 "SlantOaths$History" "slots" "[LSlantOaths$Table;", Cond.methodLink RX0 17 yX4_init, Cond.methodLink RL 86 yX7_init, Cond.instanceMethod yX7_init, Cond.code yX7_init cX7_init 1 none, Cond.methodLink RX7 1 objectInit, Cond.fieldLink RX7 7 "SlantOathsModel" "state" "[I", Cond.fieldLink RX7 13 "SlantOathsModel" "spare" "[I", Cond.fieldLink RX7 16 "SlantOathsModel" "saved" "[I"]
def wsL_law0_r6 : List Cond := [Cond.fieldLink RX7 19 "SlantOathsModel" "snapshot" "[I", Cond.fieldLink RX7 22 "SlantOathsModel" "buffer" "[I", Cond.fieldLink RX7 25 "SlantOathsModel" "strokes" "[I", Cond.fieldLink RX7 28 "SlantOathsModel" "hand" "[I", Cond.methodLink RL 87 yL_lay, Cond.static yL_lay, Cond.initialized RL, Cond.codeWith yL_lay cL_lay 4 (some .int) [(0, 9, 12, 13), (0, 9, 15, 15)], Cond.classLink RL 13 "java/lang/IllegalArgumentException", Cond.classLink RL 15 "java/lang/IllegalStateException", Cond.methodLink RL 7 yX6_lay, Cond.instanceMethod yX6_lay, Cond.selects RX6 yX6_lay yX6_lay, Cond.code yX6_lay cX6_lay 4 (some .int), Cond.classLink RX6 41 "java/lang/IllegalArgumentException", Cond.initialized "java/lang/IllegalArgumentException", Cond.classLink RX6 52 "java/lang/IllegalStateException", Cond.initialized "java/lang/IllegalStateException", Cond.classLink RX6 61 RX3, Cond.methodLink RX6 37 yX5_readSheet, Cond.instanceMethod yX5_readSheet, Cond.selects RX5 yX5_readSheet yX5_readSheet, Cond.code yX5_readSheet cX5_readSheet 2 (some .boolean), Cond.methodLink RX5 48 yX5_begin]
def wsL_law0_r7 : List Cond := [Cond.instanceMethod yX5_begin, Cond.selects RX5 yX5_begin yX5_begin, Cond.code yX5_begin cX5_begin 1 none, Cond.fieldLink RX5 65 "SlantOaths$Text" "place" "I", Cond.fieldLink RX5 68 "SlantOaths$Text" "isBroken" "Z", Cond.fieldLink RX5 72 "SlantOaths$Text" "strokes" "I", Cond.fieldLink RX5 75 "SlantOaths$Text" "parts" "I", Cond.methodLink RX5 51 yX5_readStroke, Cond.instanceMethod yX5_readStroke, Cond.selects RX5 yX5_readStroke yX5_readStroke, Cond.code yX5_readStroke cX5_readStroke 8 none, Cond.methodLink RX5 54 yX5_skip, Cond.instanceMethod yX5_skip, Cond.selects RX5 yX5_skip yX5_skip, Cond.code yX5_skip cX5_skip 2 (some .boolean), Cond.methodLink RX5 85 yX5_codeHere, Cond.instanceMethod yX5_codeHere, Cond.selects RX5 yX5_codeHere yX5_codeHere, Cond.code yX5_codeHere cX5_codeHere 1 (some .int), Cond.fieldLink RX5 32 "SlantOaths$Text" "length" "I", Cond.methodLink RX5 44 yX2_at, Cond.methodLink RX5 78 yX5_readNumber, Cond.instanceMethod yX5_readNumber, Cond.selects RX5 yX5_readNumber yX5_readNumber]
def wsL_law0_r8 : List Cond := [Cond.code yX5_readNumber cX5_readNumber 5 (some .int), Cond.methodLink RX5 89 yX5_digitHere, Cond.instanceMethod yX5_digitHere, Cond.selects RX5 yX5_digitHere yX5_digitHere, Cond.code yX5_digitHere cX5_digitHere 2 (some .int), Cond.methodLink RX5 82 yX5_need, Cond.instanceMethod yX5_need, Cond.selects RX5 yX5_need yX5_need, Cond.code yX5_need cX5_need 2 none, Cond.methodLink RX5 36 yX2_put, Cond.methodLink RX5 58 yX5_isComplete, Cond.instanceMethod yX5_isComplete, Cond.selects RX5 yX5_isComplete yX5_isComplete, Cond.code yX5_isComplete cX5_isComplete 1 (some .boolean), Cond.methodLink RX6 57 yX0_save, Cond.instanceMethod yX0_save, Cond.selects RX0 yX0_save yX0_save, Cond.code yX0_save cX0_save 3 none, Cond.fieldLink RX0 18 "SlantOaths$History" "newest" "I", Cond.fieldLink RX0 30 "SlantOaths$History" "size" "I", Cond.methodLink RX0 22 yX0_newestSlot, Cond.instanceMethod yX0_newestSlot, Cond.selects RX0 yX0_newestSlot yX0_newestSlot, Cond.code yX0_newestSlot cX0_newestSlot 1 (some (.object "SlantOaths$Table"))]
def wsL_law0_r9 : List Cond := [Cond.methodLink RX0 26 yX4_takeOver, Cond.instanceMethod yX4_takeOver, Cond.selects RX4 yX4_takeOver yX4_takeOver, Cond.code yX4_takeOver cX4_takeOver 3 none, Cond.fieldLink RX4 65 "SlantOaths$Table" "size" "I", Cond.methodLink RX4 61 yX2_copyFrom, Cond.methodLink RX4 68 yX1_takeOver, Cond.instanceMethod yX1_takeOver, Cond.selects RX1 yX1_takeOver yX1_takeOver, Cond.code yX1_takeOver cX1_takeOver 2 none, Cond.fieldLink RX1 33 "SlantOaths$Oaths" "sworn" "I", Cond.methodLink RX1 36 yX2_copyFrom, Cond.methodLink RX6 70 yX3_init, Cond.methodLink RX6 73 yX3_reckonMarks, Cond.instanceMethod yX3_reckonMarks, Cond.selects RX3 yX3_reckonMarks yX3_reckonMarks, Cond.code yX3_reckonMarks cX3_reckonMarks 3 none, Cond.methodLink RX3 31 yX3_total, Cond.instanceMethod yX3_total, Cond.selects RX3 yX3_total yX3_total, Cond.code yX3_total cX3_total 4 (some .int), Cond.methodLink RX3 53 yX3_numberOf, Cond.instanceMethod yX3_numberOf, Cond.selects RX3 yX3_numberOf yX3_numberOf]
def wsL_law0_r10 : List Cond := [Cond.code yX3_numberOf cX3_numberOf 3 (some .int), Cond.methodLink RX3 56 yX2_at, Cond.methodLink RX3 35 yX3_mean, Cond.static yX3_mean, Cond.code yX3_mean cX3_mean 2 (some .int), Cond.methodLink RX3 80 yJ9_floorDiv_7cf53, Cond.static yJ9_floorDiv_7cf53, Cond.initialized RJ9, Cond.code yJ9_floorDiv_7cf53 cJ9_floorDiv_7cf53 3 (some .int), Cond.methodLink RX3 39 yX2_put, Cond.methodLink RX3 43 yX3_slantRange, Cond.instanceMethod yX3_slantRange, Cond.selects RX3 yX3_slantRange yX3_slantRange, Cond.code yX3_slantRange cX3_slantRange 4 (some .int), Cond.methodLink RX3 69 Lib.Math.min.name, Cond.methodLink RX3 74 Lib.Math.max.name, Cond.static Lib.Math.max.name, Cond.code Lib.Math.max.name Lib.Math.max.code 2 (some .int), Cond.methodLink RX3 47 yX3_loopHeights, Cond.instanceMethod yX3_loopHeights, Cond.selects RX3 yX3_loopHeights yX3_loopHeights, Cond.code yX3_loopHeights cX3_loopHeights 3 (some .int), Cond.methodLink RX3 50 yX3_pressureSteps, Cond.instanceMethod yX3_pressureSteps]
def wsL_law0_r11 : List Cond := [Cond.selects RX3 yX3_pressureSteps yX3_pressureSteps, Cond.code yX3_pressureSteps cX3_pressureSteps 3 (some .int), Cond.methodLink RX3 77 Lib.Math.abs.name, Cond.static Lib.Math.abs.name, Cond.code Lib.Math.abs.name Lib.Math.abs.code 1 (some .int), Cond.methodLink RX6 76 yX4_putDown, Cond.instanceMethod yX4_putDown, Cond.selects RX4 yX4_putDown yX4_putDown, Cond.code yX4_putDown cX4_putDown 3 (some .int), Cond.methodLink RX6 80 yX5_empty, Cond.instanceMethod yX5_empty, Cond.selects RX5 yX5_empty yX5_empty, Cond.code yX5_empty cX5_empty 1 none, Cond.methodLink RL 92 yX7_lay, Cond.instanceMethod yX7_lay, Cond.selects RX7 yX7_lay yX7_lay, Cond.code yX7_lay cX7_lay 4 (some .int), Cond.fieldLink RX7 31 "SlantOathsModel" "thrown" "I", Cond.fieldLink RX7 136 "SlantOathsModel" "many" "I", Cond.fieldLink RX7 139 "SlantOathsModel" "length" "I", Cond.methodLink RX7 132 yX7_isSheetText, Cond.instanceMethod yX7_isSheetText, Cond.selects RX7 yX7_isSheetText yX7_isSheetText, Cond.code yX7_isSheetText cX7_isSheetText 1 (some .boolean)]
def wsL_law0_r12 : List Cond := [Cond.methodLink RX7 176 yX7_findSheetError, Cond.instanceMethod yX7_findSheetError, Cond.selects RX7 yX7_findSheetError yX7_findSheetError, Cond.code yX7_findSheetError cX7_findSheetError 1 (some .int), Cond.fieldLink RX7 161 "SlantOathsModel" "at" "I", Cond.methodLink RX7 173 yX7_readsStroke, Cond.instanceMethod yX7_readsStroke, Cond.selects RX7 yX7_readsStroke yX7_readsStroke, Cond.code yX7_readsStroke cX7_readsStroke 9 (some .boolean), Cond.methodLink RX7 167 yX7_takes, Cond.instanceMethod yX7_takes, Cond.selects RX7 yX7_takes yX7_takes, Cond.code yX7_takes cX7_takes 3 (some .boolean), Cond.methodLink RX7 164 yX7_next, Cond.instanceMethod yX7_next, Cond.selects RX7 yX7_next yX7_next, Cond.code yX7_next cX7_next 1 (some .int), Cond.methodLink RX7 170 yX7_readNumber, Cond.instanceMethod yX7_readNumber, Cond.selects RX7 yX7_readNumber yX7_readNumber, Cond.code yX7_readNumber cX7_readNumber 4 (some .int), Cond.methodLink RX7 35 yX7_within, Cond.static yX7_within, Cond.code yX7_within cX7_within 3 (some .boolean)]
def wsL_law0_r13 : List Cond := [Cond.methodLink RX7 46 yX7_fails, Cond.instanceMethod yX7_fails, Cond.selects RX7 yX7_fails yX7_fails, Cond.code yX7_fails cX7_fails 2 (some .int), Cond.methodLink RX7 54 yX7_save, Cond.instanceMethod yX7_save, Cond.selects RX7 yX7_save yX7_save, Cond.code yX7_save cX7_save 2 none, Cond.fieldLink RX7 43 "SlantOathsModel" "savedMany" "I", Cond.methodLink RL 93 yX7_thrown, Cond.instanceMethod yX7_thrown, Cond.selects RX7 yX7_thrown yX7_thrown, Cond.code yX7_thrown cX7_thrown 1 (some .int), Cond.methodLink RL 96 yL_drop, Cond.static yL_drop, Cond.codeWith yL_drop cL_drop 4 (some .int) [(0, 9, 12, 20)], Cond.classLink RL 20 "java/lang/IndexOutOfBoundsException", Cond.methodLink RL 17 yX6_drop, Cond.instanceMethod yX6_drop, Cond.selects RX6 yX6_drop yX6_drop, Cond.code yX6_drop cX6_drop 2 (some .int), Cond.classLink RX6 87 "java/lang/IndexOutOfBoundsException", Cond.initialized "java/lang/IndexOutOfBoundsException", Cond.methodLink RX6 83 yX6_isThere]
def wsL_law0_r14 : List Cond := [Cond.instanceMethod yX6_isThere, Cond.selects RX6 yX6_isThere yX6_isThere, Cond.code yX6_isThere cX6_isThere 2 (some .boolean), Cond.methodLink RX6 92 yX4_takeAway, Cond.instanceMethod yX4_takeAway, Cond.selects RX4 yX4_takeAway yX4_takeAway, Cond.code yX4_takeAway cX4_takeAway 3 (some .int), Cond.methodLink RX4 72 yX2_closeUp, Cond.instanceMethod yX2_closeUp, Cond.selects RX2 yX2_closeUp yX2_closeUp, Cond.code yX2_closeUp cX2_closeUp 3 none, Cond.methodLink RX4 75 yX1_forgetSheet, Cond.instanceMethod yX1_forgetSheet, Cond.selects RX1 yX1_forgetSheet yX1_forgetSheet, Cond.code yX1_forgetSheet cX1_forgetSheet 4 (some .int), Cond.methodLink RX1 50 yX1_isOf, Cond.instanceMethod yX1_isOf, Cond.selects RX1 yX1_isOf yX1_isOf, Cond.code yX1_isOf cX1_isOf 3 (some .boolean), Cond.methodLink RX1 47 yX1_takeOut, Cond.instanceMethod yX1_takeOut, Cond.selects RX1 yX1_takeOut yX1_takeOut, Cond.code yX1_takeOut cX1_takeOut 2 none, Cond.methodLink RX1 76 yX2_closeUp]
def wsL_law0_r15 : List Cond := [Cond.methodLink RX1 58 yX1_numberWithout, Cond.static yX1_numberWithout, Cond.code yX1_numberWithout cX1_numberWithout 2 (some .int), Cond.methodLink RX1 44 yX1_joinHands, Cond.methodLink RL 98 yX7_drop, Cond.instanceMethod yX7_drop, Cond.selects RX7 yX7_drop yX7_drop, Cond.code yX7_drop cX7_drop 2 (some .int), Cond.methodLink RX7 142 yX7_isSheet, Cond.instanceMethod yX7_isSheet, Cond.selects RX7 yX7_isSheet yX7_isSheet, Cond.code yX7_isSheet cX7_isSheet 2 (some .boolean), Cond.methodLink RX7 145 yX7_drops, Cond.instanceMethod yX7_drops, Cond.selects RX7 yX7_drops yX7_drops, Cond.code yX7_drops cX7_drops 4 (some .int), Cond.methodLink RX7 98 yX7_ofOath, Cond.instanceMethod yX7_ofOath, Cond.selects RX7 yX7_ofOath yX7_ofOath, Cond.code yX7_ofOath cX7_ofOath 3 (some .int), Cond.methodLink RX7 129 yX7_dropOath, Cond.instanceMethod yX7_dropOath, Cond.selects RX7 yX7_dropOath yX7_dropOath, Cond.code yX7_dropOath cX7_dropOath 3 none]
def wsL_law0_r16 : List Cond := [Cond.methodLink RL 99 yL_pass, Cond.static yL_pass, Cond.codeWith yL_pass cL_pass 4 (some .int) [(0, 9, 12, 13)], Cond.methodLink RL 22 yX6_pass, Cond.instanceMethod yX6_pass, Cond.selects RX6 yX6_pass yX6_pass, Cond.code yX6_pass cX6_pass 2 (some .int), Cond.methodLink RX6 98 yX4_growOlder, Cond.instanceMethod yX4_growOlder, Cond.selects RX4 yX4_growOlder yX4_growOlder, Cond.code yX4_growOlder cX4_growOlder 4 (some .int), Cond.methodLink RX4 82 Lib.Math.min.name, Cond.methodLink RX4 88 Lib.Math.max.name, Cond.methodLink RX4 79 yX2_at, Cond.methodLink RL 101 yX7_pass, Cond.instanceMethod yX7_pass, Cond.selects RX7 yX7_pass yX7_pass, Cond.code yX7_pass cX7_pass 2 (some .int), Cond.methodLink RX7 148 yX7_passes, Cond.instanceMethod yX7_passes, Cond.selects RX7 yX7_passes yX7_passes, Cond.code yX7_passes cX7_passes 5 (some .int), Cond.methodLink RX7 39 yX7_of, Cond.instanceMethod yX7_of]
def wsL_law0_r17 : List Cond := [Cond.selects RX7 yX7_of yX7_of, Cond.code yX7_of cX7_of 3 (some .int), Cond.methodLink RL 102 yL_set, Cond.static yL_set, Cond.codeWith yL_set cL_set 5 (some .int) [(0, 10, 13, 20), (0, 10, 17, 13)], Cond.methodLink RL 25 yX6_set, Cond.instanceMethod yX6_set, Cond.selects RX6 yX6_set yX6_set, Cond.code yX6_set cX6_set 4 (some .int), Cond.fieldLink RX6 101 "SlantOaths" "MOST_OF_SETTING" "[I", Cond.methodLink RX6 112 yX2_at, Cond.methodLink RX6 117 yX2_put, Cond.methodLink RL 105 yX7_set, Cond.instanceMethod yX7_set, Cond.selects RX7 yX7_set yX7_set, Cond.code yX7_set cX7_set 4 (some .int), Cond.methodLink RX7 151 yX7_mostOf, Cond.static yX7_mostOf, Cond.code yX7_mostOf cX7_mostOf 1 (some .int), Cond.methodLink RL 106 yL_swear, Cond.static yL_swear, Cond.codeWith yL_swear cL_swear 6 (some .int) [(0, 12, 15, 20), (0, 12, 19, 15)], Cond.methodLink RL 29 yX6_swear, Cond.instanceMethod yX6_swear]
def wsL_law0_r18 : List Cond := [Cond.selects RX6 yX6_swear yX6_swear, Cond.code yX6_swear cX6_swear 4 (some .int), Cond.methodLink RX6 121 yX6_areThere, Cond.instanceMethod yX6_areThere, Cond.selects RX6 yX6_areThere yX6_areThere, Cond.code yX6_areThere cX6_areThere 3 (some .boolean), Cond.methodLink RX6 125 yX4_reasonAgainst, Cond.instanceMethod yX4_reasonAgainst, Cond.selects RX4 yX4_reasonAgainst yX4_reasonAgainst, Cond.code yX4_reasonAgainst cX4_reasonAgainst 4 (some .int), Cond.methodLink RX4 152 yX1_placeOf, Cond.instanceMethod yX1_placeOf, Cond.selects RX1 yX1_placeOf yX1_placeOf, Cond.code yX1_placeOf cX1_placeOf 4 (some .int), Cond.methodLink RX4 145 yX4_areOfOneHand, Cond.instanceMethod yX4_areOfOneHand, Cond.selects RX4 yX4_areOfOneHand yX4_areOfOneHand, Cond.code yX4_areOfOneHand cX4_areOfOneHand 3 (some .boolean), Cond.methodLink RX4 105 yX1_handOf, Cond.instanceMethod yX1_handOf, Cond.selects RX1 yX1_handOf yX1_handOf, Cond.code yX1_handOf cX1_handOf 2 (some .int), Cond.methodLink RX4 101 yX4_trembles, Cond.instanceMethod yX4_trembles]
def wsL_law0_r19 : List Cond := [Cond.selects RX4 yX4_trembles yX4_trembles, Cond.code yX4_trembles cX4_trembles 3 (some .boolean), Cond.methodLink RX4 91 yX4_sheetAt, Cond.instanceMethod yX4_sheetAt, Cond.selects RX4 yX4_sheetAt yX4_sheetAt, Cond.code yX4_sheetAt cX4_sheetAt 3 (some (.object "SlantOaths$Sheet")), Cond.methodLink RX4 98 yX3_total, Cond.methodLink RX4 134 yX4_likeness, Cond.instanceMethod yX4_likeness, Cond.selects RX4 yX4_likeness yX4_likeness, Cond.code yX4_likeness cX4_likeness 4 (some .int), Cond.methodLink RX4 138 yX4_agreeing, Cond.instanceMethod yX4_agreeing, Cond.selects RX4 yX4_agreeing yX4_agreeing, Cond.code yX4_agreeing cX4_agreeing 11 (some .int), Cond.methodLink RX4 166 Lib.Math.abs.name, Cond.methodLink RX4 169 yX4_allowance, Cond.static yX4_allowance, Cond.code yX4_allowance cX4_allowance 2 (some .int), Cond.methodLink RX4 111 yX4_fadedMarks, Cond.instanceMethod yX4_fadedMarks, Cond.selects RX4 yX4_fadedMarks yX4_fadedMarks, Cond.code yX4_fadedMarks cX4_fadedMarks 2 (some .int), Cond.methodLink RX4 158 yJ6_bitCount_0f7a4]
def wsL_law0_r20 : List Cond := [Cond.static yJ6_bitCount_0f7a4, Cond.initialized RJ6, Cond.code yJ6_bitCount_0f7a4 cJ6_bitCount_0f7a4 1 (some .int), Cond.constant RJ6 265 (1431655765), Cond.constant RJ6 266 (858993459), Cond.constant RJ6 267 (252645135), Cond.methodLink RX4 155 yX1_forbidJoining, Cond.instanceMethod yX1_forbidJoining, Cond.selects RX1 yX1_forbidJoining yX1_forbidJoining, Cond.code yX1_forbidJoining cX1_forbidJoining 4 (some .boolean), Cond.methodLink RX1 69 yX1_isInHands, Cond.instanceMethod yX1_isInHands, Cond.selects RX1 yX1_isInHands yX1_isInHands, Cond.code yX1_isInHands cX1_isInHands 5 (some .boolean), Cond.methodLink RX6 135 yX1_add, Cond.instanceMethod yX1_add, Cond.selects RX1 yX1_add yX1_add, Cond.code yX1_add cX1_add 4 none, Cond.methodLink RX6 141 yX4_hands, Cond.instanceMethod yX4_hands, Cond.selects RX4 yX4_hands yX4_hands, Cond.code yX4_hands cX4_hands 3 (some .int), Cond.methodLink RL 109 yX7_swear, Cond.instanceMethod yX7_swear]
def wsL_law0_r21 : List Cond := [Cond.selects RX7 yX7_swear yX7_swear, Cond.code yX7_swear cX7_swear 4 (some .int), Cond.methodLink RX7 154 yX7_whyNotSworn, Cond.instanceMethod yX7_whyNotSworn, Cond.selects RX7 yX7_whyNotSworn yX7_whyNotSworn, Cond.code yX7_whyNotSworn cX7_whyNotSworn 4 (some .int), Cond.methodLink RX7 109 yX7_findOath, Cond.instanceMethod yX7_findOath, Cond.selects RX7 yX7_findOath yX7_findOath, Cond.code yX7_findOath cX7_findOath 6 (some .int), Cond.methodLink RX7 112 yX7_areOfOne, Cond.instanceMethod yX7_areOfOne, Cond.selects RX7 yX7_areOfOne yX7_areOfOne, Cond.code yX7_areOfOne cX7_areOfOne 3 (some .boolean), Cond.methodLink RX7 105 yX7_layHands, Cond.instanceMethod yX7_layHands, Cond.selects RX7 yX7_layHands yX7_layHands, Cond.code yX7_layHands cX7_layHands 3 none, Cond.methodLink RX7 101 yX7_join, Cond.instanceMethod yX7_join, Cond.selects RX7 yX7_join yX7_join, Cond.code yX7_join cX7_join 7 none, Cond.methodLink RX7 116 yX7_trembles, Cond.instanceMethod yX7_trembles]
def wsL_law0_r22 : List Cond := [Cond.selects RX7 yX7_trembles yX7_trembles, Cond.code yX7_trembles cX7_trembles 2 (some .boolean), Cond.methodLink RX7 61 yX7_sumOf, Cond.instanceMethod yX7_sumOf, Cond.selects RX7 yX7_sumOf yX7_sumOf, Cond.code yX7_sumOf cX7_sumOf 5 (some .int), Cond.methodLink RX7 57 yX7_ofStroke, Cond.instanceMethod yX7_ofStroke, Cond.selects RX7 yX7_ofStroke yX7_ofStroke, Cond.code yX7_ofStroke cX7_ofStroke 4 (some .int), Cond.methodLink RX7 119 yX7_likeness, Cond.instanceMethod yX7_likeness, Cond.selects RX7 yX7_likeness yX7_likeness, Cond.code yX7_likeness cX7_likeness 3 (some .int), Cond.methodLink RX7 92 yX7_agreeing, Cond.instanceMethod yX7_agreeing, Cond.selects RX7 yX7_agreeing yX7_agreeing, Cond.code yX7_agreeing cX7_agreeing 5 (some .int), Cond.methodLink RX7 86 yX7_isGone, Cond.instanceMethod yX7_isGone, Cond.selects RX7 yX7_isGone yX7_isGone, Cond.code yX7_isGone cX7_isGone 4 (some .boolean), Cond.methodLink RX7 79 yX7_hasFaded, Cond.instanceMethod yX7_hasFaded]
def wsL_law0_r23 : List Cond := [Cond.selects RX7 yX7_hasFaded yX7_hasFaded, Cond.code yX7_hasFaded cX7_hasFaded 2 (some .boolean), Cond.methodLink RX7 89 yX7_differ, Cond.instanceMethod yX7_differ, Cond.selects RX7 yX7_differ yX7_differ, Cond.code yX7_differ cX7_differ 4 (some .int), Cond.methodLink RX7 83 yX7_markOf, Cond.instanceMethod yX7_markOf, Cond.selects RX7 yX7_markOf yX7_markOf, Cond.code yX7_markOf cX7_markOf 3 (some .int), Cond.methodLink RX7 67 yX7_divided, Cond.static yX7_divided, Cond.code yX7_divided cX7_divided 2 (some .int), Cond.methodLink RX7 70 yX7_spread, Cond.instanceMethod yX7_spread, Cond.selects RX7 yX7_spread yX7_spread, Cond.code yX7_spread cX7_spread 6 (some .int), Cond.methodLink RX7 73 yX7_loopHeight, Cond.instanceMethod yX7_loopHeight, Cond.selects RX7 yX7_loopHeight yX7_loopHeight, Cond.code yX7_loopHeight cX7_loopHeight 5 (some .int), Cond.methodLink RX7 76 yX7_unrest, Cond.instanceMethod yX7_unrest, Cond.selects RX7 yX7_unrest yX7_unrest]
def wsL_law0_r24 : List Cond := [Cond.code yX7_unrest cX7_unrest 5 (some .int), Cond.methodLink RX7 64 yX7_sizeOf, Cond.static yX7_sizeOf, Cond.code yX7_sizeOf cX7_sizeOf 1 (some .int), Cond.methodLink RX7 95 yX7_ones, Cond.static yX7_ones, Cond.code yX7_ones cX7_ones 3 (some .int), Cond.methodLink RX7 122 yX7_breaks, Cond.instanceMethod yX7_breaks, Cond.selects RX7 yX7_breaks yX7_breaks, Cond.code yX7_breaks cX7_breaks 5 (some .boolean), Cond.methodLink RX7 158 yX7_swears, Cond.instanceMethod yX7_swears, Cond.selects RX7 yX7_swears yX7_swears, Cond.code yX7_swears cX7_swears 5 (some .int), Cond.methodLink RX7 125 yX7_hands, Cond.instanceMethod yX7_hands, Cond.selects RX7 yX7_hands yX7_hands, Cond.code yX7_hands cX7_hands 3 (some .int), Cond.methodLink RL 110 yL_recant, Cond.static yL_recant, Cond.codeWith yL_recant cL_recant 5 (some .int) [(0, 10, 13, 20)], Cond.methodLink RL 33 yX6_recant, Cond.instanceMethod yX6_recant]
def wsL_law0_r25 : List Cond := [Cond.selects RX6 yX6_recant yX6_recant, Cond.code yX6_recant cX6_recant 4 (some .int), Cond.methodLink RX6 145 yX1_placeOf, Cond.methodLink RX6 149 yX1_removeAt, Cond.instanceMethod yX1_removeAt, Cond.selects RX1 yX1_removeAt yX1_removeAt, Cond.code yX1_removeAt cX1_removeAt 2 none, Cond.methodLink RL 112 yX7_recant, Cond.instanceMethod yX7_recant, Cond.selects RX7 yX7_recant yX7_recant, Cond.code yX7_recant cX7_recant 4 (some .int), Cond.methodLink RL 113 yL_append, Cond.static yL_append, Cond.codeWith yL_append cL_append 4 (some .int) [(0, 9, 12, 13), (0, 9, 15, 15)], Cond.methodLink RL 36 yX6_append, Cond.instanceMethod yX6_append, Cond.selects RX6 yX6_append yX6_append, Cond.code yX6_append cX6_append 2 (some .int), Cond.methodLink RX6 160 yX5_add, Cond.instanceMethod yX5_add, Cond.selects RX5 yX5_add yX5_add, Cond.code yX5_add cX5_add 2 (some .int), Cond.methodLink RL 115 yX7_append, Cond.instanceMethod yX7_append]
def wsL_law0_r26 : List Cond := [Cond.selects RX7 yX7_append yX7_append, Cond.code yX7_append cX7_append 2 (some .int), Cond.methodLink RL 116 yX6_clearBuffer, Cond.instanceMethod yX6_clearBuffer, Cond.selects RX6 yX6_clearBuffer yX6_clearBuffer, Cond.code yX6_clearBuffer cX6_clearBuffer 2 (some .int), Cond.methodLink RL 119 yX7_clearBuffer, Cond.instanceMethod yX7_clearBuffer, Cond.selects RX7 yX7_clearBuffer yX7_clearBuffer, Cond.code yX7_clearBuffer cX7_clearBuffer 2 (some .int), Cond.methodLink RL 120 yX6_firstError, Cond.instanceMethod yX6_firstError, Cond.selects RX6 yX6_firstError yX6_firstError, Cond.code yX6_firstError cX6_firstError 2 (some .int), Cond.methodLink RX6 162 yX5_readWorks, Cond.instanceMethod yX5_readWorks, Cond.selects RX5 yX5_readWorks yX5_readWorks, Cond.code yX5_readWorks cX5_readWorks 2 (some .boolean), Cond.methodLink RX5 62 yX5_readPart, Cond.instanceMethod yX5_readPart, Cond.selects RX5 yX5_readPart yX5_readPart, Cond.code yX5_readPart cX5_readPart 4 none, Cond.methodLink RL 124 yX7_firstError, Cond.instanceMethod yX7_firstError]
def wsL_law0_r27 : List Cond := [Cond.selects RX7 yX7_firstError yX7_firstError, Cond.code yX7_firstError cX7_firstError 3 (some .int), Cond.methodLink RX7 191 yX7_findWorksError, Cond.instanceMethod yX7_findWorksError, Cond.selects RX7 yX7_findWorksError yX7_findWorksError, Cond.code yX7_findWorksError cX7_findWorksError 1 (some .int), Cond.methodLink RX7 188 yX7_readsPart, Cond.instanceMethod yX7_readsPart, Cond.selects RX7 yX7_readsPart yX7_readsPart, Cond.code yX7_readsPart cX7_readsPart 1 (some .boolean), Cond.fieldLink RX7 179 "SlantOathsModel" "sign" "I", Cond.fieldLink RX7 182 "SlantOathsModel" "first" "I", Cond.fieldLink RX7 185 "SlantOathsModel" "second" "I", Cond.methodLink RL 125 yL_work, Cond.static yL_work, Cond.codeWith yL_work cL_work 3 (some .int) [(0, 8, 11, 13)], Cond.methodLink RL 39 yX6_work, Cond.instanceMethod yX6_work, Cond.selects RX6 yX6_work yX6_work, Cond.code yX6_work cX6_work 2 (some .int), Cond.methodLink RX6 170 yX4_forgetStop, Cond.instanceMethod yX4_forgetStop, Cond.selects RX4 yX4_forgetStop yX4_forgetStop, Cond.code yX4_forgetStop cX4_forgetStop 1 none]
def wsL_law0_r28 : List Cond := [Cond.methodLink RX6 176 yX6_doPart, Cond.instanceMethod yX6_doPart, Cond.selects RX6 yX6_doPart yX6_doPart, Cond.code yX6_doPart cX6_doPart 5 (some .boolean), Cond.methodLink RX6 278 yX6_swearPart, Cond.instanceMethod yX6_swearPart, Cond.selects RX6 yX6_swearPart yX6_swearPart, Cond.code yX6_swearPart cX6_swearPart 5 (some .int), Cond.methodLink RL 128 yX7_work, Cond.instanceMethod yX7_work, Cond.selects RX7 yX7_work yX7_work, Cond.code yX7_work cX7_work 3 (some .int), Cond.methodLink RX7 194 yX7_whyNotPart, Cond.instanceMethod yX7_whyNotPart, Cond.selects RX7 yX7_whyNotPart yX7_whyNotPart, Cond.code yX7_whyNotPart cX7_whyNotPart 1 (some .int), Cond.methodLink RX7 197 yX7_doPart, Cond.instanceMethod yX7_doPart, Cond.selects RX7 yX7_doPart yX7_doPart, Cond.code yX7_doPart cX7_doPart 1 none, Cond.methodLink RL 129 yL_stopped, Cond.static yL_stopped, Cond.codeWith yL_stopped cL_stopped 4 (some .int) [(0, 9, 12, 13)], Cond.methodLink RL 43 yX6_stopped]
def wsL_law0_r29 : List Cond := [Cond.instanceMethod yX6_stopped, Cond.selects RX6 yX6_stopped yX6_stopped, Cond.code yX6_stopped cX6_stopped 2 (some .int), Cond.methodLink RL 131 yX7_stopped, Cond.instanceMethod yX7_stopped, Cond.selects RX7 yX7_stopped yX7_stopped, Cond.code yX7_stopped cX7_stopped 2 (some .int), Cond.methodLink RL 132 yL_undo, Cond.static yL_undo, Cond.codeWith yL_undo cL_undo 3 (some .int) [(0, 8, 11, 15)], Cond.methodLink RL 46 yX6_undo, Cond.instanceMethod yX6_undo, Cond.selects RX6 yX6_undo yX6_undo, Cond.code yX6_undo cX6_undo 1 (some .int), Cond.methodLink RX6 190 yX0_bringBack, Cond.instanceMethod yX0_bringBack, Cond.selects RX0 yX0_bringBack yX0_bringBack, Cond.code yX0_bringBack cX0_bringBack 3 none, Cond.methodLink RL 134 yX7_undo, Cond.instanceMethod yX7_undo, Cond.selects RX7 yX7_undo yX7_undo, Cond.code yX7_undo cX7_undo 2 (some .int), Cond.methodLink RL 135 yX6_keep, Cond.instanceMethod yX6_keep]
def wsL_law0_r30 : List Cond := [Cond.selects RX6 yX6_keep yX6_keep, Cond.code yX6_keep cX6_keep 1 (some .int), Cond.methodLink RX6 193 yX4_takeOver, Cond.methodLink RL 138 yX7_keep, Cond.instanceMethod yX7_keep, Cond.selects RX7 yX7_keep yX7_keep, Cond.code yX7_keep cX7_keep 2 (some .int), Cond.fieldLink RX7 50 "SlantOathsModel" "hasSnapshot" "Z", Cond.methodLink RL 139 yL_restore, Cond.static yL_restore, Cond.codeWith yL_restore cL_restore 3 (some .int) [(0, 8, 11, 15)], Cond.methodLink RL 49 yX6_restore, Cond.instanceMethod yX6_restore, Cond.selects RX6 yX6_restore yX6_restore, Cond.code yX6_restore cX6_restore 1 (some .int), Cond.methodLink RL 141 yX7_restore, Cond.instanceMethod yX7_restore, Cond.selects RX7 yX7_restore yX7_restore, Cond.code yX7_restore cX7_restore 2 (some .int), Cond.methodLink RL 142 yL_sheet, Cond.static yL_sheet, Cond.codeWith yL_sheet cL_sheet 5 (some .int) [(0, 10, 13, 20), (0, 10, 17, 13)], Cond.methodLink RL 52 yX6_sheet, Cond.instanceMethod yX6_sheet]
def wsL_law0_r31 : List Cond := [Cond.selects RX6 yX6_sheet yX6_sheet, Cond.code yX6_sheet cX6_sheet 3 (some .int), Cond.methodLink RX6 200 yX4_numberOfSheet, Cond.instanceMethod yX4_numberOfSheet, Cond.selects RX4 yX4_numberOfSheet yX4_numberOfSheet, Cond.code yX4_numberOfSheet cX4_numberOfSheet 3 (some .int), Cond.methodLink RX4 108 yX1_ofSheet, Cond.instanceMethod yX1_ofSheet, Cond.selects RX1 yX1_ofSheet yX1_ofSheet, Cond.code yX1_ofSheet cX1_ofSheet 4 (some .int), Cond.methodLink RL 144 yX7_sheet, Cond.instanceMethod yX7_sheet, Cond.selects RX7 yX7_sheet yX7_sheet, Cond.code yX7_sheet cX7_sheet 3 (some .int), Cond.methodLink RX7 206 yX7_tellsSheet, Cond.instanceMethod yX7_tellsSheet, Cond.selects RX7 yX7_tellsSheet yX7_tellsSheet, Cond.code yX7_tellsSheet cX7_tellsSheet 3 (some .int), Cond.methodLink RX7 200 yX7_handOf, Cond.instanceMethod yX7_handOf, Cond.selects RX7 yX7_handOf yX7_handOf, Cond.code yX7_handOf cX7_handOf 2 (some .int), Cond.methodLink RX7 203 yX7_oathsOf, Cond.instanceMethod yX7_oathsOf]
def wsL_law0_r32 : List Cond := [Cond.selects RX7 yX7_oathsOf yX7_oathsOf, Cond.code yX7_oathsOf cX7_oathsOf 4 (some .int), Cond.methodLink RL 145 yL_stroke, Cond.static yL_stroke, Cond.codeWith yL_stroke cL_stroke 6 (some .int) [(0, 12, 15, 20), (0, 12, 19, 13)], Cond.methodLink RL 55 yX6_stroke, Cond.instanceMethod yX6_stroke, Cond.selects RX6 yX6_stroke yX6_stroke, Cond.code yX6_stroke cX6_stroke 4 (some .int), Cond.methodLink RX6 205 yX4_sheetAt, Cond.methodLink RX6 209 yX3_toldNumber, Cond.instanceMethod yX3_toldNumber, Cond.selects RX3 yX3_toldNumber yX3_toldNumber, Cond.code yX3_toldNumber cX3_toldNumber 3 (some .int), Cond.methodLink RL 148 yX7_stroke, Cond.instanceMethod yX7_stroke, Cond.selects RX7 yX7_stroke yX7_stroke, Cond.code yX7_stroke cX7_stroke 4 (some .int), Cond.methodLink RX7 209 yX7_tellsStroke, Cond.instanceMethod yX7_tellsStroke, Cond.selects RX7 yX7_tellsStroke yX7_tellsStroke, Cond.code yX7_tellsStroke cX7_tellsStroke 4 (some .int), Cond.methodLink RL 149 yL_mark, Cond.static yL_mark]
def wsL_law0_r33 : List Cond := [Cond.codeWith yL_mark cL_mark 5 (some .int) [(0, 10, 13, 20), (0, 10, 17, 13)], Cond.methodLink RL 59 yX6_mark, Cond.instanceMethod yX6_mark, Cond.selects RX6 yX6_mark yX6_mark, Cond.code yX6_mark cX6_mark 3 (some .int), Cond.methodLink RX6 214 yX3_toldMark, Cond.instanceMethod yX3_toldMark, Cond.selects RX3 yX3_toldMark yX3_toldMark, Cond.code yX3_toldMark cX3_toldMark 2 (some .int), Cond.methodLink RL 151 yX7_mark, Cond.instanceMethod yX7_mark, Cond.selects RX7 yX7_mark yX7_mark, Cond.code yX7_mark cX7_mark 3 (some .int), Cond.methodLink RL 152 yL_compare, Cond.static yL_compare, Cond.codeWith yL_compare cL_compare 6 (some .int) [(0, 12, 15, 20), (0, 12, 19, 13)], Cond.methodLink RL 62 yX6_compare, Cond.instanceMethod yX6_compare, Cond.selects RX6 yX6_compare yX6_compare, Cond.code yX6_compare cX6_compare 4 (some .int), Cond.methodLink RX6 219 yX4_comparison, Cond.instanceMethod yX4_comparison, Cond.selects RX4 yX4_comparison yX4_comparison, Cond.code yX4_comparison cX4_comparison 4 (some .int)]
def wsL_law0_r34 : List Cond := [Cond.methodLink RX4 141 yX1_leads, Cond.instanceMethod yX1_leads, Cond.selects RX1 yX1_leads yX1_leads, Cond.code yX1_leads cX1_leads 9 (some .boolean), Cond.methodLink RX4 149 yX1_kindOf, Cond.instanceMethod yX1_kindOf, Cond.selects RX1 yX1_kindOf yX1_kindOf, Cond.code yX1_kindOf cX1_kindOf 4 (some .int), Cond.methodLink RX1 62 yX1_placeOf, Cond.methodLink RL 154 yX7_compare, Cond.instanceMethod yX7_compare, Cond.selects RX7 yX7_compare yX7_compare, Cond.code yX7_compare cX7_compare 4 (some .int), Cond.methodLink RX7 215 yX7_compares, Cond.instanceMethod yX7_compares, Cond.selects RX7 yX7_compares yX7_compares, Cond.code yX7_compares cX7_compares 4 (some .int), Cond.methodLink RX7 212 yX7_tellsOathOf, Cond.instanceMethod yX7_tellsOathOf, Cond.selects RX7 yX7_tellsOathOf yX7_tellsOathOf, Cond.code yX7_tellsOathOf cX7_tellsOathOf 4 (some .int), Cond.methodLink RL 155 yL_oath, Cond.static yL_oath, Cond.codeWith yL_oath cL_oath 5 (some .int) [(0, 10, 13, 13)]]
def wsL_law0_r35 : List Cond := [Cond.methodLink RL 65 yX6_oath, Cond.instanceMethod yX6_oath, Cond.selects RX6 yX6_oath yX6_oath, Cond.code yX6_oath cX6_oath 3 (some .int), Cond.methodLink RX6 226 yX1_numberOf, Cond.instanceMethod yX1_numberOf, Cond.selects RX1 yX1_numberOf yX1_numberOf, Cond.code yX1_numberOf cX1_numberOf 3 (some .int), Cond.methodLink RX1 65 yX1_holdsTogether, Cond.instanceMethod yX1_holdsTogether, Cond.selects RX1 yX1_holdsTogether yX1_holdsTogether, Cond.code yX1_holdsTogether cX1_holdsTogether 2 (some .boolean), Cond.methodLink RX1 73 yX1_leads, Cond.methodLink RL 157 yX7_oath, Cond.instanceMethod yX7_oath, Cond.selects RX7 yX7_oath yX7_oath, Cond.code yX7_oath cX7_oath 3 (some .int), Cond.methodLink RX7 221 yX7_tellsOath, Cond.instanceMethod yX7_tellsOath, Cond.selects RX7 yX7_tellsOath yX7_tellsOath, Cond.code yX7_tellsOath cX7_tellsOath 3 (some .int), Cond.methodLink RX7 218 yX7_holds, Cond.instanceMethod yX7_holds, Cond.selects RX7 yX7_holds yX7_holds]
def wsL_law0_r36 : List Cond := [Cond.code yX7_holds cX7_holds 2 (some .boolean), Cond.methodLink RL 158 yL_count, Cond.static yL_count, Cond.codeWith yL_count cL_count 4 (some .int) [(0, 9, 12, 13)], Cond.methodLink RL 68 yX6_count, Cond.instanceMethod yX6_count, Cond.selects RX6 yX6_count yX6_count, Cond.code yX6_count cX6_count 2 (some .int), Cond.methodLink RX6 231 yX6_toldCount, Cond.instanceMethod yX6_toldCount, Cond.selects RX6 yX6_toldCount yX6_toldCount, Cond.code yX6_toldCount cX6_toldCount 2 (some .int), Cond.methodLink RX6 281 yX4_numberOfAll, Cond.instanceMethod yX4_numberOfAll, Cond.selects RX4 yX4_numberOfAll yX4_numberOfAll, Cond.code yX4_numberOfAll cX4_numberOfAll 2 (some .int), Cond.methodLink RX4 115 yX1_ofOneHand, Cond.instanceMethod yX1_ofOneHand, Cond.selects RX1 yX1_ofOneHand yX1_ofOneHand, Cond.code yX1_ofOneHand cX1_ofOneHand 3 (some .int), Cond.methodLink RX4 119 yX4_hands, Cond.methodLink RX4 122 yX4_mostOfAHand, Cond.instanceMethod yX4_mostOfAHand, Cond.selects RX4 yX4_mostOfAHand yX4_mostOfAHand]
def wsL_law0_r37 : List Cond := [Cond.code yX4_mostOfAHand cX4_mostOfAHand 5 (some .int), Cond.methodLink RX4 125 yX4_tremblingSheets, Cond.instanceMethod yX4_tremblingSheets, Cond.selects RX4 yX4_tremblingSheets yX4_tremblingSheets, Cond.code yX4_tremblingSheets cX4_tremblingSheets 3 (some .int), Cond.methodLink RX4 131 yX4_likePairs, Cond.instanceMethod yX4_likePairs, Cond.selects RX4 yX4_likePairs yX4_likePairs, Cond.code yX4_likePairs cX4_likePairs 4 (some .int), Cond.methodLink RL 160 yX7_count, Cond.instanceMethod yX7_count, Cond.selects RX7 yX7_count yX7_count, Cond.code yX7_count cX7_count 2 (some .int), Cond.methodLink RX7 236 yX7_tellsCount, Cond.instanceMethod yX7_tellsCount, Cond.selects RX7 yX7_tellsCount yX7_tellsCount, Cond.code yX7_tellsCount cX7_tellsCount 2 (some .int), Cond.methodLink RX7 224 yX7_likeOaths, Cond.instanceMethod yX7_likeOaths, Cond.selects RX7 yX7_likeOaths yX7_likeOaths, Cond.code yX7_likeOaths cX7_likeOaths 3 (some .int), Cond.methodLink RX7 227 yX7_mostOfHand, Cond.instanceMethod yX7_mostOfHand, Cond.selects RX7 yX7_mostOfHand yX7_mostOfHand]
def wsL_law0_r38 : List Cond := [Cond.code yX7_mostOfHand cX7_mostOfHand 5 (some .int), Cond.methodLink RX7 230 yX7_trembling, Cond.instanceMethod yX7_trembling, Cond.selects RX7 yX7_trembling yX7_trembling, Cond.code yX7_trembling cX7_trembling 3 (some .int), Cond.methodLink RX7 233 yX7_likePairs, Cond.instanceMethod yX7_likePairs, Cond.selects RX7 yX7_likePairs yX7_likePairs, Cond.code yX7_likePairs cX7_likePairs 4 (some .int), Cond.methodLink RL 161 yL_whyNot, Cond.static yL_whyNot, Cond.codeWith yL_whyNot cL_whyNot 6 (some .int) [(0, 12, 15, 20)], Cond.methodLink RL 71 yX6_whyNot, Cond.instanceMethod yX6_whyNot, Cond.selects RX6 yX6_whyNot yX6_whyNot, Cond.code yX6_whyNot cX6_whyNot 4 (some .int), Cond.methodLink RL 163 yX7_whyNot, Cond.instanceMethod yX7_whyNot, Cond.selects RX7 yX7_whyNot yX7_whyNot, Cond.code yX7_whyNot cX7_whyNot 4 (some .int), Cond.methodLink RL 164 yL_nearest, Cond.static yL_nearest, Cond.codeWith yL_nearest cL_nearest 4 (some .int) [(0, 9, 12, 20)], Cond.methodLink RL 74 yX6_nearest]
def wsL_law0_r39 : List Cond := [Cond.instanceMethod yX6_nearest, Cond.selects RX6 yX6_nearest yX6_nearest, Cond.code yX6_nearest cX6_nearest 2 (some .int), Cond.methodLink RX6 234 yX4_mostAlike, Cond.instanceMethod yX4_mostAlike, Cond.selects RX4 yX4_mostAlike yX4_mostAlike, Cond.code yX4_mostAlike cX4_mostAlike 6 (some .int), Cond.methodLink RL 166 yX7_nearest, Cond.instanceMethod yX7_nearest, Cond.selects RX7 yX7_nearest yX7_nearest, Cond.code yX7_nearest cX7_nearest 2 (some .int), Cond.methodLink RX7 239 yX7_mostAlike, Cond.instanceMethod yX7_mostAlike, Cond.selects RX7 yX7_mostAlike yX7_mostAlike, Cond.code yX7_mostAlike cX7_mostAlike 5 (some .int), Cond.methodLink RL 167 yL_toleranceFor, Cond.static yL_toleranceFor, Cond.codeWith yL_toleranceFor cL_toleranceFor 6 (some .int) [(0, 12, 15, 20), (0, 12, 19, 13)], Cond.methodLink RL 77 yX6_toleranceFor, Cond.instanceMethod yX6_toleranceFor, Cond.selects RX6 yX6_toleranceFor yX6_toleranceFor, Cond.code yX6_toleranceFor cX6_toleranceFor 4 (some .int), Cond.methodLink RX6 237 yX4_neededTolerance, Cond.instanceMethod yX4_neededTolerance]
def wsL_law0_r40 : List Cond := [Cond.selects RX4 yX4_neededTolerance yX4_neededTolerance, Cond.code yX4_neededTolerance cX4_neededTolerance 7 (some .int), Cond.methodLink RL 169 yX7_toleranceFor, Cond.instanceMethod yX7_toleranceFor, Cond.selects RX7 yX7_toleranceFor yX7_toleranceFor, Cond.code yX7_toleranceFor cX7_toleranceFor 4 (some .int), Cond.methodLink RX7 242 yX7_tolerance, Cond.instanceMethod yX7_tolerance, Cond.selects RX7 yX7_tolerance yX7_tolerance, Cond.code yX7_tolerance cX7_tolerance 5 (some .int), Cond.methodLink RL 170 yL_ifPassed, Cond.static yL_ifPassed, Cond.codeWith yL_ifPassed cL_ifPassed 6 (some .int) [(0, 12, 15, 20), (0, 12, 19, 13)], Cond.methodLink RL 80 yX6_ifPassed, Cond.instanceMethod yX6_ifPassed, Cond.selects RX6 yX6_ifPassed yX6_ifPassed, Cond.code yX6_ifPassed cX6_ifPassed 4 (some .int), Cond.methodLink RX6 240 yX4_likeness, Cond.methodLink RL 172 yX7_ifPassed, Cond.instanceMethod yX7_ifPassed, Cond.selects RX7 yX7_ifPassed yX7_ifPassed, Cond.code yX7_ifPassed cX7_ifPassed 4 (some .int), Cond.methodLink RX7 251 yX7_wouldPass, Cond.instanceMethod yX7_wouldPass]
def wsL_law0_r41 : List Cond := [Cond.selects RX7 yX7_wouldPass yX7_wouldPass, Cond.code yX7_wouldPass cX7_wouldPass 6 (some .int), Cond.methodLink RX7 245 yX7_putAside, Cond.instanceMethod yX7_putAside, Cond.selects RX7 yX7_putAside yX7_putAside, Cond.code yX7_putAside cX7_putAside 2 none, Cond.methodLink RX7 248 yX7_takeBack, Cond.instanceMethod yX7_takeBack, Cond.selects RX7 yX7_takeBack yX7_takeBack, Cond.code yX7_takeBack cX7_takeBack 2 none, Cond.methodLink RL 173 yX6_handShare, Cond.instanceMethod yX6_handShare, Cond.selects RX6 yX6_handShare yX6_handShare, Cond.code yX6_handShare cX6_handShare 1 (some .double), Cond.methodLink RX6 243 yX4_shareOfHands, Cond.instanceMethod yX4_shareOfHands, Cond.selects RX4 yX4_shareOfHands yX4_shareOfHands, Cond.code yX4_shareOfHands cX4_shareOfHands 5 (some .double), Cond.methodLink RL 177 yX7_handShare, Cond.instanceMethod yX7_handShare, Cond.selects RX7 yX7_handShare yX7_handShare, Cond.code yX7_handShare cX7_handShare 1 (some .double), Cond.methodLink RX7 254 yX7_share, Cond.instanceMethod yX7_share]
def wsL_law0_r42 : List Cond := [Cond.selects RX7 yX7_share yX7_share, Cond.code yX7_share cX7_share 6 (some .double), Cond.methodLink RL 178 yX6_digest, Cond.instanceMethod yX6_digest, Cond.selects RX6 yX6_digest yX6_digest, Cond.code yX6_digest cX6_digest 5 (some .long), Cond.constantLong RX6 247 (3919), Cond.methodLink RX6 249 yX6_mix, Cond.static yX6_mix, Cond.code yX6_mix cX6_mix 4 (some .long), Cond.constantLong RX6 285 (31), Cond.methodLink RX6 253 yX6_mixSheet, Cond.instanceMethod yX6_mixSheet, Cond.selects RX6 yX6_mixSheet yX6_mixSheet, Cond.code yX6_mixSheet cX6_mixSheet 7 (some .long), Cond.methodLink RX6 284 yX3_mixInto, Cond.instanceMethod yX3_mixInto, Cond.selects RX3 yX3_mixInto yX3_mixInto, Cond.code yX3_mixInto cX3_mixInto 7 (some .long), Cond.methodLink RX3 59 yX3_toldNumber, Cond.methodLink RX3 66 yX3_toldMark, Cond.methodLink RX6 257 yX6_mixPair, Cond.instanceMethod yX6_mixPair, Cond.selects RX6 yX6_mixPair yX6_mixPair]
def wsL_law0_r43 : List Cond := [Cond.code yX6_mixPair cX6_mixPair 8 (some .long), Cond.methodLink RX6 261 yX6_bitsOf, Cond.static yX6_bitsOf, Cond.code yX6_bitsOf cX6_bitsOf 6 (some .long), Cond.constantLong RX6 287 (1023), Cond.constantDouble RX6 289 (4611686018427387904), Cond.constantDouble RX6 291 (4841369599423283200), Cond.methodLink RX6 265 yX5_mixInto, Cond.instanceMethod yX5_mixInto, Cond.selects RX5 yX5_mixInto yX5_mixInto, Cond.code yX5_mixInto cX5_mixInto 6 (some .long), Cond.methodLink RL 182 yX7_digest, Cond.instanceMethod yX7_digest, Cond.selects RX7 yX7_digest yX7_digest, Cond.code yX7_digest cX7_digest 2 (some .long), Cond.constantLong RX7 268 (3919), Cond.fieldLink RX7 260 "SlantOathsModel" "hash" "J", Cond.methodLink RX7 264 yX7_mix, Cond.instanceMethod yX7_mix, Cond.selects RX7 yX7_mix yX7_mix, Cond.code yX7_mix cX7_mix 3 none, Cond.constantLong RX7 258 (31), Cond.methodLink RX7 270 yX7_mixSheet, Cond.instanceMethod yX7_mixSheet]
def wsL_law0_r44 : List Cond := [Cond.selects RX7 yX7_mixSheet yX7_mixSheet, Cond.code yX7_mixSheet cX7_mixSheet 4 none, Cond.methodLink RX7 273 yJxe99ae_doubleToLongBits_ccdee, Cond.static yJxe99ae_doubleToLongBits_ccdee, Cond.initialized RJxe99ae, Cond.code yJxe99ae_doubleToLongBits_ccdee cJxe99ae_doubleToLongBits_ccdee 2 (some .long), Cond.methodLink RJxe99ae 134 ⟨"java/lang/Double", "doubleToRawLongBits", "(D)J"⟩, Cond.native ⟨"java/lang/Double", "doubleToRawLongBits", "(D)J"⟩, Cond.static ⟨"java/lang/Double", "doubleToRawLongBits", "(D)J"⟩, Cond.initialized "java/lang/Double", Cond.constantLong RJxe99ae 137 (9221120237041090560), Cond.methodLink RJxe99ae 122 yJxe99ae_isNaN_b9ae7, Cond.static yJxe99ae_isNaN_b9ae7, Cond.code yJxe99ae_isNaN_b9ae7 cJxe99ae_isNaN_b9ae7 2 (some .boolean)]
def wsL_law0 : List Cond := (wsL_law0_r1 ++ (wsL_law0_r2 ++ (wsL_law0_r3 ++ (wsL_law0_r4 ++ (wsL_law0_r5 ++ (wsL_law0_r6 ++ (wsL_law0_r7 ++ (wsL_law0_r8 ++ (wsL_law0_r9 ++ (wsL_law0_r10 ++ (wsL_law0_r11 ++ (wsL_law0_r12 ++ (wsL_law0_r13 ++ (wsL_law0_r14 ++ (wsL_law0_r15 ++ (wsL_law0_r16 ++ (wsL_law0_r17 ++ (wsL_law0_r18 ++ (wsL_law0_r19 ++ (wsL_law0_r20 ++ (wsL_law0_r21 ++ (wsL_law0_r22 ++ (wsL_law0_r23 ++ (wsL_law0_r24 ++ (wsL_law0_r25 ++ (wsL_law0_r26 ++ (wsL_law0_r27 ++ (wsL_law0_r28 ++ (wsL_law0_r29 ++ (wsL_law0_r30 ++ (wsL_law0_r31 ++ (wsL_law0_r32 ++ (wsL_law0_r33 ++ (wsL_law0_r34 ++ (wsL_law0_r35 ++ (wsL_law0_r36 ++ (wsL_law0_r37 ++ (wsL_law0_r38 ++ (wsL_law0_r39 ++ (wsL_law0_r40 ++ (wsL_law0_r41 ++ (wsL_law0_r42 ++ (wsL_law0_r43 ++ wsL_law0_r44))))))))))))))))))))))))))))))))))))))))))) ++ wsX60 ++ wsX70 ++ wsX50 ++ wsX40 ++ wsX00 ++ wsX20 ++ wsX30 ++ wsX10 ++ ([] : List Cond)
def wsL_law : List Cond := wsL_law0 ++ (vx_atS RX6 45 "java/lang/IllegalArgumentException" ["java/lang/RuntimeException", "java/lang/Exception"]).filter goodWord ++ (vx_atS RX6 56 "java/lang/IllegalStateException" ["java/lang/RuntimeException", "java/lang/Exception"]).filter goodWord ++ (vx_atS RX6 91 "java/lang/IndexOutOfBoundsException" ["java/lang/RuntimeException", "java/lang/Exception"]).filter goodWord
theorem inlX0 : ∀ w ∈ wsX00, w ∈ wsL_law := fun _ h => List.mem_append_left _ (List.mem_append_left _ (List.mem_append_left _ (List.mem_append_left _ (List.mem_append_left _ (List.mem_append_left _ (List.mem_append_left _ (List.mem_append_right _ h)))))))
theorem inlX1 : ∀ w ∈ wsX10, w ∈ wsL_law := fun _ h => List.mem_append_left _ (List.mem_append_left _ (List.mem_append_left _ (List.mem_append_left _ (List.mem_append_right _ h))))
theorem inlX2 : ∀ w ∈ wsX20, w ∈ wsL_law := fun _ h => List.mem_append_left _ (List.mem_append_left _ (List.mem_append_left _ (List.mem_append_left _ (List.mem_append_left _ (List.mem_append_left _ (List.mem_append_right _ h))))))
theorem inlX3 : ∀ w ∈ wsX30, w ∈ wsL_law := fun _ h => List.mem_append_left _ (List.mem_append_left _ (List.mem_append_left _ (List.mem_append_left _ (List.mem_append_left _ (List.mem_append_right _ h)))))
theorem inlX4 : ∀ w ∈ wsX40, w ∈ wsL_law := fun _ h => List.mem_append_left _ (List.mem_append_left _ (List.mem_append_left _ (List.mem_append_left _ (List.mem_append_left _ (List.mem_append_left _ (List.mem_append_left _ (List.mem_append_left _ (List.mem_append_right _ h))))))))
theorem inlX5 : ∀ w ∈ wsX50, w ∈ wsL_law := fun _ h => List.mem_append_left _ (List.mem_append_left _ (List.mem_append_left _ (List.mem_append_left _ (List.mem_append_left _ (List.mem_append_left _ (List.mem_append_left _ (List.mem_append_left _ (List.mem_append_left _ (List.mem_append_right _ h)))))))))
theorem inlX6 : ∀ w ∈ wsX60, w ∈ wsL_law := fun _ h => List.mem_append_left _ (List.mem_append_left _ (List.mem_append_left _ (List.mem_append_left _ (List.mem_append_left _ (List.mem_append_left _ (List.mem_append_left _ (List.mem_append_left _ (List.mem_append_left _ (List.mem_append_left _ (List.mem_append_left _ (List.mem_append_right _ h)))))))))))
theorem inlX7 : ∀ w ∈ wsX70, w ∈ wsL_law := fun _ h => List.mem_append_left _ (List.mem_append_left _ (List.mem_append_left _ (List.mem_append_left _ (List.mem_append_left _ (List.mem_append_left _ (List.mem_append_left _ (List.mem_append_left _ (List.mem_append_left _ (List.mem_append_left _ (List.mem_append_right _ h))))))))))
abbrev vwCl : List vw_C := [(RX0, TX0, 3), (RX1, TX1, 6), (RX2, TX2, 1), (RX3, TX3, 3), (RX4, TX4, 8), (RX5, TX5, 10), (RX6, TX6, 5), (RX7, TX7, 17)]
end
section
/-! THE GROUND: a method's heap as functions of addresses (what kind each cell is, what its fields and its rows hold), a judgement over it, and a rule for each instruction. -/
-- a state: kinds, reference fields, lengths, int fields, int rows, rows of references, long fields, long rows
abbrev sj_St : Type := (Nat → Option Nat) × (Nat → Nat → Option Nat) × (Nat → Nat) × (Nat → Nat → Int32) × (Nat → Nat → Int32) × (Nat → Nat → Option Nat) × (Nat → Int64) × (Nat → Nat → Int64)
def sj_kd (S : sj_St) : Nat → Option Nat := S.1
def sj_rf (S : sj_St) : Nat → Nat → Option Nat := S.2.1
def sj_il (S : sj_St) : Nat → Nat := S.2.2.1
def sj_fi (S : sj_St) : Nat → Nat → Int32 := S.2.2.2.1
def sj_ia (S : sj_St) : Nat → Nat → Int32 := S.2.2.2.2.1
def sj_ra (S : sj_St) : Nat → Nat → Option Nat := S.2.2.2.2.2.1
def sj_fl (S : sj_St) : Nat → Int64 := S.2.2.2.2.2.2.1
def sj_la (S : sj_St) : Nat → Nat → Int64 := S.2.2.2.2.2.2.2
def sj_up {α : Type} (f : Nat → α) (a : Nat) (v : α) : Nat → α := fun q => if q = a then v else f q
theorem sj_up_self {α : Type} (f : Nat → α) (a : Nat) (v : α) : sj_up f a v a = v := if_pos rfl
theorem sj_up_ne {α : Type} (f : Nat → α) {a q : Nat} (v : α) (h : q ≠ a) : sj_up f a v q = f q := if_neg h
def sj_wFi (S : sj_St) (a k : Nat) (v : Int32) : sj_St := (S.1, S.2.1, S.2.2.1, sj_up S.2.2.2.1 a (sj_up (S.2.2.2.1 a) k v), S.2.2.2.2)
def sj_wFl (S : sj_St) (a : Nat) (v : Int64) : sj_St := (S.1, S.2.1, S.2.2.1, S.2.2.2.1, S.2.2.2.2.1, S.2.2.2.2.2.1, sj_up S.2.2.2.2.2.2.1 a v, S.2.2.2.2.2.2.2)
def sj_wRf (S : sj_St) (a k : Nat) (v : Option Nat) : sj_St := (S.1, sj_up S.2.1 a (sj_up (S.2.1 a) k v), S.2.2)
def sj_wIa (S : sj_St) (a k : Nat) (v : Int32) : sj_St := (S.1, S.2.1, S.2.2.1, S.2.2.2.1, sj_up S.2.2.2.2.1 a (upd (S.2.2.2.2.1 a) k v), S.2.2.2.2.2)
def sj_wRa (S : sj_St) (a k : Nat) (v : Option Nat) : sj_St := (S.1, S.2.1, S.2.2.1, S.2.2.2.1, S.2.2.2.2.1, sj_up S.2.2.2.2.2.1 a (va_up (S.2.2.2.2.2.1 a) k v), S.2.2.2.2.2.2)
def sj_wLa (S : sj_St) (a k : Nat) (v : Int64) : sj_St := (S.1, S.2.1, S.2.2.1, S.2.2.2.1, S.2.2.2.2.1, S.2.2.2.2.2.1, S.2.2.2.2.2.2.1, sj_up S.2.2.2.2.2.2.2 a (vp_updL (S.2.2.2.2.2.2.2 a) k v))
-- the types of the fields by kind: 0 int or boolean, 1 reference, 2 long
def sj_tyl : Nat → List Nat
  | 0 => [1, 0, 0]
  | 1 => [0, 0, 1, 1, 1, 1]
  | 2 => [1]
  | 3 => [0, 1, 1]
  | 4 => [1, 1, 1, 0, 1, 1, 0, 0]
  | 5 => [1, 0, 0, 0, 1, 0, 1, 1, 1, 0]
  | 6 => [1, 1, 1, 1, 0]
  | 7 => [0, 1, 1, 1, 0, 1, 0, 1, 0, 0, 0, 0, 0, 1, 0, 1, 2]
  | _ => []
def sj_fv (S : sj_St) (a j : Nat) : Nat → Value
  | 0 => .int (sj_fi S a j)
  | 1 => va_rf (sj_rf S a j)
  | _ => .long (sj_fl S a)
def sj_fs (S : sj_St) (a : Nat) : Nat → List Nat → List Value
  | _, [] => []
  | j, t :: ts => sj_fv S a j t :: sj_fs S a (j + 1) ts
theorem sj_fs_len (S : sj_St) (a : Nat) : ∀ (l : List Nat) (j : Nat), (sj_fs S a j l).length = l.length
  | [], _ => rfl
  | _ :: ts, j => congrArg (· + 1) (sj_fs_len S a ts (j + 1))
theorem sj_fs_get (S : sj_St) (a : Nat) : ∀ (l : List Nat) (j k t : Nat), l[k]? = some t → (sj_fs S a j l)[k]? = some (sj_fv S a (j + k) t)
  | [], _, _, _, h => by simp at h
  | u :: us, j, 0, t, h => by
    have h1 : u = t := by simpa using h
    subst h1
    rfl
  | u :: us, j, k + 1, t, h => by
    have h1 : us[k]? = some t := by simpa using h
    have h2 := sj_fs_get S a us (j + 1) k t h1
    have h3 : j + 1 + k = j + (k + 1) := by omega
    rw [h3] at h2
    simpa [sj_fs] using h2
theorem sj_fs_congr {S S' : sj_St} {a : Nat} : ∀ (l : List Nat) (j : Nat), (∀ i t, l[i]? = some t → sj_fv S' a (j + i) t = sj_fv S a (j + i) t) → sj_fs S' a j l = sj_fs S a j l
  | [], _, _ => rfl
  | u :: us, j, h => by
    have h0 := h 0 u rfl
    have h1 := sj_fs_congr (S := S) (S' := S') (a := a) us (j + 1) (fun i t hi => by
      have h2 := h (i + 1) t (by simpa using hi)
      have h3 : j + 1 + i = j + (i + 1) := by omega
      rw [h3]; exact h2)
    show sj_fv S' a j u :: sj_fs S' a (j + 1) us = sj_fv S a j u :: sj_fs S a (j + 1) us
    rw [h1]
    exact congrArg (· :: _) h0
theorem sj_fs_set {S S' : sj_St} {a : Nat} : ∀ (l : List Nat) (j k : Nat) (v : Value), k < l.length → (∀ t, l[k]? = some t → sj_fv S' a (j + k) t = v) → (∀ i t, l[i]? = some t → i ≠ k → sj_fv S' a (j + i) t = sj_fv S a (j + i) t) → (sj_fs S a j l).set k v = sj_fs S' a j l
  | [], _, _, _, hk, _, _ => by simp at hk
  | u :: us, j, 0, v, _, hv, ho => by
    have h1 := sj_fs_congr (S := S) (S' := S') (a := a) us (j + 1) (fun i t hi => by
      have h2 := ho (i + 1) t (by simpa using hi) (by omega)
      have h3 : j + 1 + i = j + (i + 1) := by omega
      rw [h3]; exact h2)
    have h0 := hv u rfl
    show v :: sj_fs S a (j + 1) us = sj_fv S' a j u :: sj_fs S' a (j + 1) us
    rw [h1]
    exact congrArg (· :: _) h0.symm
  | u :: us, j, k + 1, v, hk, hv, ho => by
    have h1 := sj_fs_set (S := S) (S' := S') (a := a) us (j + 1) k v (by simpa using hk) (fun t ht => by
        have h2 := hv t (by simpa using ht)
        have h3 : j + 1 + k = j + (k + 1) := by omega
        rw [h3]; exact h2) (fun i t hi hne => by
        have h2 := ho (i + 1) t (by simpa using hi) (by omega)
        have h3 : j + 1 + i = j + (i + 1) := by omega
        rw [h3]; exact h2)
    have h0 := ho 0 u rfl (by omega)
    show sj_fv S a j u :: (sj_fs S a (j + 1) us).set k v = sj_fv S' a j u :: sj_fs S' a (j + 1) us
    rw [h1]
    exact congrArg (· :: _) h0.symm
def sj_ce (cy : Nat → ClassId) (S : sj_St) (a : Nat) : Nat → va_E
  | 8 => .inl (cy 0, sj_il S a, .inl (sj_ia S a))
  | 9 => .inl (cy 1, sj_il S a, .inr (.inr (.inr (.inr (sj_ra S a)))))
  | 10 => .inl (cy 2, sj_il S a, .inr (.inr (.inr (.inr (sj_ra S a)))))
  | 11 => .inl (cy 3, sj_il S a, .inr (.inl (sj_la S a)))
  | ci => .inr (ci, sj_fs S a 0 (sj_tyl ci))
theorem sj_ce_obj (cy : Nat → ClassId) (S : sj_St) (a : Nat) {ci : Nat} (h : ci < 8) : sj_ce cy S a ci = .inr (ci, sj_fs S a 0 (sj_tyl ci)) := by
  match ci, h with
  | 0, _ => rfl
  | 1, _ => rfl
  | 2, _ => rfl
  | 3, _ => rfl
  | 4, _ => rfl
  | 5, _ => rfl
  | 6, _ => rfl
  | 7, _ => rfl
def sj_WA (cy : Nat → ClassId) (S : sj_St) (ws : va_W) : Prop := ∀ a ci, sj_kd S a = some ci → ∃ q0 : Nat, ws[q0]? = some (a, sj_ce cy S a ci)
def sj_HP (D : va_G) (cy : Nat → ClassId) (A : Nat → Prop) (S : sj_St) (H : Heap) : Prop := ∃ ws : va_W, va_P D vwCl ws H ∧ va_D A ws ∧ sj_WA cy S ws
abbrev sj_tys (cy : Nat → ClassId) : List (ClassId × FieldType) := [(cy 0, .int), (cy 1, .object "SlantOaths$Sheet"), (cy 2, .object "SlantOaths$Table"), (cy 3, .long)]
/-- one cell is written -/
theorem sj_WA_set {cy : Nat → ClassId} {S S' : sj_St} {ws : va_W} {q0 a ci : Nat} {e : va_E} (h : sj_WA cy S ws) (hkd : sj_kd S' = sj_kd S) (hq : ws[q0]? = some (a, e)) (hk : sj_kd S a = some ci) (hs : ∀ b cj, b ≠ a → sj_ce cy S' b cj = sj_ce cy S b cj) : sj_WA cy S' (ws.set q0 (a, sj_ce cy S' a ci)) := by
  intro b cj hb
  rw [hkd] at hb
  by_cases hba : b = a
  · subst hba
    cases hb.symm.trans hk
    refine ⟨q0, ?_⟩
    rw [List.getElem?_set_self' , hq]
    rfl
  · obtain ⟨q1, h1⟩ := h b cj hb
    refine ⟨q1, ?_⟩
    have hne : q0 ≠ q1 := by
      intro hc
      subst hc
      rw [hq] at h1
      cases h1
      exact hba rfl
    rw [List.getElem?_set_ne hne, h1, hs b cj hba]
def sj_NWl : List Cond := [.fieldLinkNest "SlantOaths" 48 "SlantOaths$Table" "size" "I" "SlantOaths", .fieldLinkNest "SlantOaths" 63 "SlantOaths$Text" "strokes" "I" "SlantOaths", .fieldLinkNest "SlantOaths" 66 "SlantOaths$Text" "numbers" "LSlantOaths$Row;" "SlantOaths", .fieldLinkNest "SlantOaths" 109 "SlantOaths$Table" "settings" "LSlantOaths$Row;" "SlantOaths", .fieldLinkNest "SlantOaths" 131 "SlantOaths$Table" "oaths" "LSlantOaths$Oaths;" "SlantOaths", .fieldLinkNest "SlantOaths" 155 "SlantOaths$Text" "length" "I" "SlantOaths", .fieldLinkNest "SlantOaths" 165 "SlantOaths$Text" "place" "I" "SlantOaths", .fieldLinkNest "SlantOaths" 173 "SlantOaths$Text" "parts" "I" "SlantOaths", .fieldLinkNest "SlantOaths" 181 "SlantOaths$Table" "stopPart" "I" "SlantOaths", .fieldLinkNest "SlantOaths" 184 "SlantOaths$Table" "stopReason" "I" "SlantOaths", .fieldLinkNest "SlantOaths" 187 "SlantOaths$History" "size" "I" "SlantOaths", .fieldLinkNest "SlantOaths" 225 "SlantOaths$Oaths" "size" "I" "SlantOaths", .fieldLinkNest "SlantOaths" 269 "SlantOaths$Text" "firsts" "LSlantOaths$Row;" "SlantOaths", .fieldLinkNest "SlantOaths" 272 "SlantOaths$Text" "seconds" "LSlantOaths$Row;" "SlantOaths", .fieldLinkNest "SlantOaths" 275 "SlantOaths$Text" "kinds" "LSlantOaths$Row;" "SlantOaths", .fieldLinkNest "SlantOaths$Table" 50 "SlantOaths" "FIRST_SETTINGS" "[I" "SlantOaths", .fieldLinkNest "SlantOaths$Table" 95 "SlantOaths$Sheet" "strokes" "I" "SlantOaths", .fieldLinkNest "SlantOaths$Table" 114 "SlantOaths$Oaths" "size" "I" "SlantOaths", .fieldLinkNest "SlantOaths$Table" 128 "SlantOaths$Oaths" "sworn" "I" "SlantOaths", .fieldLinkNest "SlantOaths$Table" 163 "SlantOaths$Sheet" "marks" "LSlantOaths$Row;" "SlantOaths", .methodLinkNest "SlantOaths" 9 ⟨"SlantOaths$Text", "<init>", "()V"⟩ "SlantOaths", .methodLinkNest "SlantOaths$Sheet" 62 ⟨"SlantOaths", "mix", "(JJ)J"⟩ "SlantOaths", .methodLinkNest "SlantOaths$Table" 35 ⟨"SlantOaths$Oaths", "<init>", "()V"⟩ "SlantOaths", .methodLinkNest "SlantOaths$Table" 58 ⟨"SlantOaths$Oaths", "joinHands", "()V"⟩ "SlantOaths", .methodLinkNest "SlantOaths$Text" 40 ⟨"SlantOaths", "mix", "(JJ)J"⟩ "SlantOaths"]
def sj_nest : Cond → Bool
  | .fieldLinkNest .. => true
  | .methodLinkNest .. => true
  | _ => false
theorem sj_NWl_ok : sj_NWl.all sj_nest = true := by decide +kernel
def sj_NW (U : State) : Prop := ∀ w ∈ sj_NWl, va_Nw w U
theorem sj_NW_warm {s U : State} (hW : s.WarmedH U.vm) (h : sj_NW s) : sj_NW U := by
  intro w hw
  have h1 := List.all_eq_true.mp sj_NWl_ok w hw
  have h2 := h w hw
  cases w with
  | fieldLinkNest a b c d e f => exact va_Nw.warmF hW h2
  | methodLinkNest a b c d => exact va_Nw.warmM hW h2
  | _ => simp [sj_nest] at h1
theorem sj_NW_same {u U : State} (h : u.vm = U.vm) (hN : sj_NW u) : sj_NW U := by
  intro w hw
  have h1 := List.all_eq_true.mp sj_NWl_ok w hw
  have h2 := hN w hw
  cases w with
  | fieldLinkNest a b c d e f => exact va_Nw.same rfl h h2
  | methodLinkNest a b c d => exact va_Nw.same rfl h h2
  | _ => simp [sj_nest] at h1
def sj_t1 : Nat → Int32 := fun j => ([4, 10, 3, 20, 8, 6, 40, 2, 4] : List Int32).getD j 0
def sj_t2 : Nat → Int32 := fun j => ([50, 50, 50, 50, 50, 50, 99, 9, 6] : List Int32).getD j 0
/-- the two static rows of the class -/
def sj_ZS (A : Nat → Prop) (U : State) (H : Heap) : Prop := ∃ t1 t2 : Nat, va_Z "SlantOaths" "FIRST_SETTINGS" "[I" (.ref t1) A U H ∧ va_T .int t1 9 (fun j => .int (sj_t1 j)) A U H ∧ va_Z "SlantOaths" "MOST_OF_SETTING" "[I" (.ref t2) A U H ∧ va_T .int t2 9 (fun j => .int (sj_t2 j)) A U H
theorem sj_ZS_moved {A : Nat → Prop} {u U : State} {H : Heap} (hvm : u.vm.Alike U.vm) (h : sj_ZS A u H) : sj_ZS A U H := by
  obtain ⟨t1, t2, h1, h2, h3, h4⟩ := h
  exact ⟨t1, t2, h1.moved hvm, h2.moved hvm, h3.moved hvm, h4.moved hvm⟩
theorem sj_ZS_kept {A : Nat → Prop} {U : State} {H H1 : Heap} (h : sj_ZS A U H) (hq : ∀ a : Nat, a < H.size → ¬ A a → H1[a]? = H[a]?) : sj_ZS A U H1 := by
  obtain ⟨t1, t2, h1, h2, h3, h4⟩ := h
  exact ⟨t1, t2, h1.kept hq, h2.kept hq, h3.kept hq, h4.kept hq⟩
/-- what else holds wherever a method of ours is called -/
def sj_Am (A : Nat → Prop) (U : State) (H : Heap) : Prop := sj_NW U ∧ sj_ZS A U H
theorem sj_Am_warm {A : Nat → Prop} {s U : State} {H : Heap} (hW : s.WarmedH U.vm) (h : sj_Am A s H) : sj_Am A U H := ⟨sj_NW_warm hW h.1, sj_ZS_moved hW.alike h.2⟩
theorem sj_Am_same {A : Nat → Prop} {u U : State} {H : Heap} (hvm : u.vm = U.vm) (h : sj_Am A u H) : sj_Am A U H := ⟨sj_NW_same hvm h.1, sj_ZS_moved (by rw [hvm]; exact Vm.Alike.refl _) h.2⟩
theorem sj_Am_kept {A : Nat → Prop} {U : State} {H H1 : Heap} (h : sj_Am A U H) (hq : ∀ a : Nat, a < H.size → ¬ A a → H1[a]? = H[a]?) : sj_Am A U H1 := ⟨h.1, sj_ZS_kept h.2 hq⟩
abbrev sj_GT : List Cond := wsL_law
-- a method: its name, its code, its locals, what it returns; frames, locals, cells and slots that it may ask for
abbrev sj_M : Type := MethodName × ByteArray × Nat × Option FieldType × Nat × Nat × Nat × Nat
abbrev sj_X : Type := Program × Launch × Env × Room × State × MethodId × Array Value × List Frame × Method × Code × va_G × (Nat → ClassId) × (Nat → Prop) × Nat × (State → Prop)
def sj_lv : Nat → List (Option Value) → List (Nat × Value)
  | _, [] => []
  | i, none :: t => sj_lv (i + 1) t
  | i, some v :: t => (i, v) :: sj_lv (i + 1) t
theorem sj_lv_mem : ∀ (L : List (Option Value)) (i k : Nat) (v : Value), L[k]? = some (some v) → (i + k, v) ∈ sj_lv i L
  | [], _, _, _, h => by simp at h
  | none :: t, i, 0, v, h => by simp at h
  | some w :: t, i, 0, v, h => by
    have : w = v := by simpa using h
    subst this
    exact List.mem_cons_self
  | none :: t, i, k + 1, v, h => by
    have h1 := sj_lv_mem t (i + 1) k v (by simpa using h)
    have h3 : i + 1 + k = i + (k + 1) := by omega
    rw [h3] at h1
    exact h1
  | some w :: t, i, k + 1, v, h => by
    have h1 := sj_lv_mem t (i + 1) k v (by simpa using h)
    have h3 : i + 1 + k = i + (k + 1) := by omega
    rw [h3] at h1
    exact List.mem_cons_of_mem _ h1
theorem sj_lv_inv : ∀ (L : List (Option Value)) (i : Nat) (q : Nat × Value), q ∈ sj_lv i L → ∃ k, q.1 = i + k ∧ L[k]? = some (some q.2)
  | [], _, _, h => by simp [sj_lv] at h
  | none :: t, i, q, h => by
    obtain ⟨k, h1, h2⟩ := sj_lv_inv t (i + 1) q h
    exact ⟨k + 1, by omega, by simpa using h2⟩
  | some w :: t, i, q, h => by
    rcases List.mem_cons.mp h with h | h
    · subst h
      exact ⟨0, by simp, by simp⟩
    · obtain ⟨k, h1, h2⟩ := sj_lv_inv t (i + 1) q h
      exact ⟨k + 1, by omega, by simpa using h2⟩
def sj_okb (L : List (Option Value)) : Nat → Bool
  | 0 => true
  | j + 1 => match L[j]? with
    | some (some w) => !(w.category == 2)
    | _ => true
def sj_G (X : sj_X) (S : sj_St) (cl sl : Nat) (L : List (Option Value)) (pc : Nat) (st : List Value) : Prop := match X with
  | (p, l, e, R, s, m, args, below, meth, c, D, cy, A, nL, Q) => ∀ (H : Heap) (locs : List Loc) (ls : Array Slot), sj_HP D cy A S H → va_S A s.heap H locs → lv_has ls nL (sj_lv 0 L) → W p l e R s m args below meth c H locs cl sl Q (F0 m pc ls st)
def sj_C (X : sj_X) (M : sj_M) : Prop := match X, M with
  | (p, _, _, R, s, m, args, _, meth, c, D, cy, A, nL, _), (y, cc, nL0, ret, fr, lo, mc, ms) =>
    p.tables.exec = Jvm.exec ∧ c.code = cc ∧ (c.maxLocals = nL ∧ nL = nL0) ∧ s.vm.findClass y.cls = some m.cls ∧ (∀ w ∈ sj_GT, w.before args s = true) ∧ (meth.locks = false ∧ meth.sig.returnType = ret ∧ meth.name = y.name) ∧ va_K D vwCl (sj_tys cy) s ∧ sj_Am A s s.heap ∧ (∀ q, s.heap.size ≤ q → A q) ∧ R = { frames := fr, cells := mc, slots := ms, locals := lo }
def sj_In (D : va_G) (cy : Nat → ClassId) (A : Nat → Prop) (S : sj_St) (sz : Nat) (U : State) : Prop := U.heap.size = sz ∧ sj_HP D cy A S U.heap ∧ va_K D vwCl (sj_tys cy) U ∧ sj_Am A U U.heap
def sj_Qc (D : va_G) (cy : Nat → ClassId) (A : Nat → Prop) (Post : Option Value → sj_St → Prop) : Array Value → State → Outcome → State → Prop := fun _ st oc t => (∃ (r : Option Value) (S' : sj_St), oc = .returned r ∧ Post r S' ∧ sj_HP D cy A S' t.heap) ∧ va_F A st t
/-- a contract: called with av over S, the method returns, and what it returns and the state behind it are as Post says -/
def sj_Ctr (l : Launch) (M : sj_M) (av : List Value) (S : sj_St) (Post : Option Value → sj_St → Prop) : Prop := match M with
  | (y, cc, nL, ret, fr, lo, mc, ms) => ∀ (D : va_G) (cy : Nat → ClassId) (A : Nat → Prop) (sz : Nat), (∀ q, sz ≤ q → A q) → Met l y (.code y cc nL ret :: sj_GT) { frames := fr, cells := mc, slots := ms, locals := lo } (va_Pc av (sj_In D cy A S sz)) (sj_Qc D cy A Post) mc ms A
def sj_R (X : sj_X) (M : sj_M) (Post : Option Value → sj_St → Prop) : Prop := match X, M with
  | (_, _, _, _, s, _, args, below, _, _, D, cy, A, _, Q), (_, _, _, _, _, _, mc, ms) => Q = MQ below (sj_Qc D cy A Post) args s mc ms A
theorem sj_blind {D : va_G} {cy : Nat → ClassId} {A : Nat → Prop} {S : sj_St} {sz : Nat} {av : List Value} : FrameBlind (va_Pc av (sj_In D cy A S sz)) := fun a U g mk q => by
  obtain ⟨q0, q1, q2, q3, q4⟩ := q
  exact ⟨q0, q1, q2, va_K.moved (u := U) (U := U.calling g mk a) (Vm.Alike.refl U.vm) q3, sj_Am_same (u := U) (U := U.calling g mk a) rfl q4⟩
theorem sj_start {l : Launch} {M : sj_M} {av : List Value} {S : sj_St} {Post : Option Value → sj_St → Prop} (L0 : List (Option Value)) (hy : plainName M.1.cls = true) (hlen : Nat.ble (lg_sl av).length M.2.2.1 = true) (hL : sj_lv 0 L0 = lv_args 0 av) (body : ∀ X : sj_X, X.2.1 = l → sj_C X M → sj_R X M Post → sj_G X S 0 0 L0 0 []) : sj_Ctr l M av S Post := by
  obtain ⟨y, cc, nL, ret, fr, lo, mc, ms⟩ := M
  intro D cy A sz hA
  refine Met.ofW (cc := cc) (maxL := nL) (ret := ret) hy rfl ?_
  intro p e s m args below meth c s₁ B hml hv
  obtain ⟨rfl, hsz, hP, hK, hAm⟩ := hv
  have hts := atoms_spec (ws := .code y cc nL ret :: sj_GT) B.pre
  subst hsz
  have h1 := body (p, l, e, _, s, m, _, below, meth, c, D, cy, A, nL, _) rfl ⟨B.exec, B.bytes, ⟨hml, rfl⟩, findClass_of_methodNamed B.named, fun w hw => hts w (List.mem_cons_of_mem _ hw), ⟨B.notSynchronized, B.returns, (name_of_methodNamed B.named B.method).1⟩, hK, hAm, hA, rfl⟩ rfl
  rw [lg_entry_eq]
  refine h1 s.heap [] _ hP va_S.rf ?_
  rw [hL]
  exact lv_entry av (Nat.le_of_ble_eq_true hlen)
-- ===== what a call needs: by the number of the entry in the caller's table =====
def sj_V (own : String) (idx : Nat) (M : sj_M) (n : Nat) : Prop := match M with
  | (y, cc, nL, ret, _, _, _, _) => Cond.methodLink own idx y ∈ sj_GT ∧ Cond.instanceMethod y ∈ sj_GT ∧ Cond.selects y.cls y y ∈ sj_GT ∧ Cond.initialized y.cls ∈ sj_GT ∧ Cond.code y cc nL ret ∈ sj_GT ∧ (y.cls ≠ "java/lang/invoke/MethodHandle" ∧ y.cls ≠ "java/lang/invoke/VarHandle") ∧ (parseMethodDescriptor y.desc).map (fun d => d.parameters.length) = some n
def sj_Vn (own : String) (idx : Nat) (M : sj_M) (n : Nat) : Prop := match M with
  | (y, cc, nL, ret, _, _, _, _) => Cond.methodLinkNest own idx y "SlantOaths" ∈ sj_NWl ∧ Cond.instanceMethod y ∈ sj_GT ∧ Cond.selects y.cls y y ∈ sj_GT ∧ Cond.initialized y.cls ∈ sj_GT ∧ Cond.code y cc nL ret ∈ sj_GT ∧ (y.cls ≠ "java/lang/invoke/MethodHandle" ∧ y.cls ≠ "java/lang/invoke/VarHandle") ∧ (parseMethodDescriptor y.desc).map (fun d => d.parameters.length) = some n
def sj_Vs (own : String) (idx : Nat) (M : sj_M) (n : Nat) : Prop := match M with
  | (y, cc, nL, ret, _, _, _, _) => Cond.methodLink own idx y ∈ sj_GT ∧ Cond.static y ∈ sj_GT ∧ Cond.initialized y.cls ∈ sj_GT ∧ Cond.code y cc nL ret ∈ sj_GT ∧ (y.cls ≠ "java/lang/invoke/MethodHandle" ∧ y.cls ≠ "java/lang/invoke/VarHandle") ∧ (parseMethodDescriptor y.desc).map (fun d => d.parameters.length) = some n
def sj_Vsn (own : String) (idx : Nat) (M : sj_M) (n : Nat) : Prop := match M with
  | (y, cc, nL, ret, _, _, _, _) => Cond.methodLinkNest own idx y "SlantOaths" ∈ sj_NWl ∧ Cond.static y ∈ sj_GT ∧ Cond.initialized y.cls ∈ sj_GT ∧ Cond.code y cc nL ret ∈ sj_GT ∧ (y.cls ≠ "java/lang/invoke/MethodHandle" ∧ y.cls ≠ "java/lang/invoke/VarHandle") ∧ (parseMethodDescriptor y.desc).map (fun d => d.parameters.length) = some n
theorem sj_GT_good : GoodIn sj_GT sj_GT := goodIn_sub (fun _ h => h) (by decide +kernel)
theorem sj_good (y : MethodName) (cc : ByteArray) (nL : Nat) (ret : Option FieldType) (h : Cond.code y cc nL ret ∈ sj_GT) : GoodIn sj_GT (.code y cc nL ret :: sj_GT) := by
  intro w hw
  rcases List.mem_cons.mp hw with h1 | h1
  · subst h1
    exact sj_GT_good _ h
  · exact sj_GT_good _ h1
def sj_fit (M N : sj_M) (cl sl : Nat) : Bool := Nat.ble (N.2.2.2.2.1 + 1) M.2.2.2.2.1 && (Nat.ble (8 + (N.2.2.1 + 11) + N.2.2.2.2.2.1) M.2.2.2.2.2.1 && (Nat.ble (cl + N.2.2.2.2.2.2.1) M.2.2.2.2.2.2.1 && Nat.ble (sl + N.2.2.2.2.2.2.2) M.2.2.2.2.2.2.2))
theorem sj_fit_of {M N : sj_M} {cl sl : Nat} (h : sj_fit M N cl sl = true) : N.2.2.2.2.1 + 1 ≤ M.2.2.2.2.1 ∧ 8 + (N.2.2.1 + 11) + N.2.2.2.2.2.1 ≤ M.2.2.2.2.2.1 ∧ cl + N.2.2.2.2.2.2.1 ≤ M.2.2.2.2.2.2.1 ∧ sl + N.2.2.2.2.2.2.2 ≤ M.2.2.2.2.2.2.2 := by
  simp only [sj_fit, Bool.and_eq_true] at h
  exact ⟨Nat.le_of_ble_eq_true h.1, Nat.le_of_ble_eq_true h.2.1, Nat.le_of_ble_eq_true h.2.2.1, Nat.le_of_ble_eq_true h.2.2.2⟩
end
section
theorem sj_iconst {X : sj_X} {M : sj_M} (C : sj_C X M) {S : sj_St} {cl sl : Nat} {L : List (Option Value)} {pc : Nat} {rest : List Value} {n : Int} (q : Nat) (hq : pc + 1 = q) (hd : decode M.2.1 pc = .ok (.iconst n, 1)) (k : sj_G X S cl sl L q (.int (Int32.ofInt n) :: rest)) : sj_G X S cl sl L pc (rest) := by
  obtain ⟨p, l, e, R, s, m, args, below, meth, c, D, cy, A, nL, Q⟩ := X
  obtain ⟨ym, cc, nL0, ret, fr, lo, mc, ms⟩ := M
  obtain ⟨hx, hb, ⟨hml, hnL⟩, hown, hts, ⟨hlk, hret, hnm⟩, hK, hAm, hA, hRR⟩ := C
  subst hq
  intro H locs ls h1 h2 h3
  exact lv_iconst hx hb hd rfl (k H locs ls h1 h2 h3)
theorem sj_iconstv {X : sj_X} {M : sj_M} (C : sj_C X M) {S : sj_St} {cl sl : Nat} {L : List (Option Value)} {pc : Nat} {rest : List Value} {n : Int} (v : Int32) (q : Nat) (hq : pc + 1 = q) (hd : decode M.2.1 pc = .ok (.iconst n, 1)) (hv : Int32.ofInt n = v) (k : sj_G X S cl sl L q (.int v :: rest)) : sj_G X S cl sl L pc (rest) := by
  obtain ⟨p, l, e, R, s, m, args, below, meth, c, D, cy, A, nL, Q⟩ := X
  obtain ⟨ym, cc, nL0, ret, fr, lo, mc, ms⟩ := M
  obtain ⟨hx, hb, ⟨hml, hnL⟩, hown, hts, ⟨hlk, hret, hnm⟩, hK, hAm, hA, hRR⟩ := C
  subst hq
  intro H locs ls h1 h2 h3
  exact lv_iconst hx hb hd hv (k H locs ls h1 h2 h3)
theorem sj_bipush {X : sj_X} {M : sj_M} (C : sj_C X M) {S : sj_St} {cl sl : Nat} {L : List (Option Value)} {pc : Nat} {rest : List Value} {n : Int} (v : Int32) (q : Nat) (hq : pc + 2 = q) (hd : decode M.2.1 pc = .ok (.bipush n, 2)) (hv : (Int8.ofInt n).toInt32 = v) (k : sj_G X S cl sl L q (.int v :: rest)) : sj_G X S cl sl L pc (rest) := by
  obtain ⟨p, l, e, R, s, m, args, below, meth, c, D, cy, A, nL, Q⟩ := X
  obtain ⟨ym, cc, nL0, ret, fr, lo, mc, ms⟩ := M
  obtain ⟨hx, hb, ⟨hml, hnL⟩, hown, hts, ⟨hlk, hret, hnm⟩, hK, hAm, hA, hRR⟩ := C
  subst hq
  intro H locs ls h1 h2 h3
  exact lv_bipush hx hb hd hv (k H locs ls h1 h2 h3)
theorem sj_sipush {X : sj_X} {M : sj_M} (C : sj_C X M) {S : sj_St} {cl sl : Nat} {L : List (Option Value)} {pc : Nat} {rest : List Value} {n : Int} (v : Int32) (q : Nat) (hq : pc + 3 = q) (hd : decode M.2.1 pc = .ok (.sipush n, 3)) (hv : (Int16.ofInt n).toInt32 = v) (k : sj_G X S cl sl L q (.int v :: rest)) : sj_G X S cl sl L pc (rest) := by
  obtain ⟨p, l, e, R, s, m, args, below, meth, c, D, cy, A, nL, Q⟩ := X
  obtain ⟨ym, cc, nL0, ret, fr, lo, mc, ms⟩ := M
  obtain ⟨hx, hb, ⟨hml, hnL⟩, hown, hts, ⟨hlk, hret, hnm⟩, hK, hAm, hA, hRR⟩ := C
  subst hq
  intro H locs ls h1 h2 h3
  exact lv_sipush hx hb hd hv (k H locs ls h1 h2 h3)
theorem sj_lconst {X : sj_X} {M : sj_M} (C : sj_C X M) {S : sj_St} {cl sl : Nat} {L : List (Option Value)} {pc : Nat} {rest : List Value} {n : Fin 2} (v : Int64) (q : Nat) (hq : pc + 1 = q) (hd : decode M.2.1 pc = .ok (.lconst n, 1)) (hv : Int64.ofNat (n : Nat) = v) (k : sj_G X S cl sl L q (.long v :: rest)) : sj_G X S cl sl L pc (rest) := by
  obtain ⟨p, l, e, R, s, m, args, below, meth, c, D, cy, A, nL, Q⟩ := X
  obtain ⟨ym, cc, nL0, ret, fr, lo, mc, ms⟩ := M
  obtain ⟨hx, hb, ⟨hml, hnL⟩, hown, hts, ⟨hlk, hret, hnm⟩, hK, hAm, hA, hRR⟩ := C
  subst hq
  intro H locs ls h1 h2 h3
  exact lv_lconst hx hb hd hv (k H locs ls h1 h2 h3)
theorem sj_null {X : sj_X} {M : sj_M} (C : sj_C X M) {S : sj_St} {cl sl : Nat} {L : List (Option Value)} {pc : Nat} {rest : List Value}  (q : Nat) (hq : pc + 1 = q) (hd : decode M.2.1 pc = .ok (.aconst_null, 1)) (k : sj_G X S cl sl L q (.null :: rest)) : sj_G X S cl sl L pc (rest) := by
  obtain ⟨p, l, e, R, s, m, args, below, meth, c, D, cy, A, nL, Q⟩ := X
  obtain ⟨ym, cc, nL0, ret, fr, lo, mc, ms⟩ := M
  obtain ⟨hx, hb, ⟨hml, hnL⟩, hown, hts, ⟨hlk, hret, hnm⟩, hK, hAm, hA, hRR⟩ := C
  subst hq
  intro H locs ls h1 h2 h3
  exact lv_null hx hb hd (k H locs ls h1 h2 h3)
theorem sj_iadd {X : sj_X} {M : sj_M} (C : sj_C X M) {S : sj_St} {cl sl : Nat} {L : List (Option Value)} {pc : Nat} {rest : List Value} {x y : Int32} (q : Nat) (hq : pc + 1 = q) (hd : decode M.2.1 pc = .ok (.iadd, 1)) (k : sj_G X S cl sl L q (.int (x + y) :: rest)) : sj_G X S cl sl L pc (.int y :: .int x :: rest) := by
  obtain ⟨p, l, e, R, s, m, args, below, meth, c, D, cy, A, nL, Q⟩ := X
  obtain ⟨ym, cc, nL0, ret, fr, lo, mc, ms⟩ := M
  obtain ⟨hx, hb, ⟨hml, hnL⟩, hown, hts, ⟨hlk, hret, hnm⟩, hK, hAm, hA, hRR⟩ := C
  subst hq
  intro H locs ls h1 h2 h3
  exact lv_iadd hx hb hd (k H locs ls h1 h2 h3)
theorem sj_isub {X : sj_X} {M : sj_M} (C : sj_C X M) {S : sj_St} {cl sl : Nat} {L : List (Option Value)} {pc : Nat} {rest : List Value} {x y : Int32} (q : Nat) (hq : pc + 1 = q) (hd : decode M.2.1 pc = .ok (.isub, 1)) (k : sj_G X S cl sl L q (.int (x - y) :: rest)) : sj_G X S cl sl L pc (.int y :: .int x :: rest) := by
  obtain ⟨p, l, e, R, s, m, args, below, meth, c, D, cy, A, nL, Q⟩ := X
  obtain ⟨ym, cc, nL0, ret, fr, lo, mc, ms⟩ := M
  obtain ⟨hx, hb, ⟨hml, hnL⟩, hown, hts, ⟨hlk, hret, hnm⟩, hK, hAm, hA, hRR⟩ := C
  subst hq
  intro H locs ls h1 h2 h3
  exact lv_isub hx hb hd (k H locs ls h1 h2 h3)
theorem sj_imul {X : sj_X} {M : sj_M} (C : sj_C X M) {S : sj_St} {cl sl : Nat} {L : List (Option Value)} {pc : Nat} {rest : List Value} {x y : Int32} (q : Nat) (hq : pc + 1 = q) (hd : decode M.2.1 pc = .ok (.imul, 1)) (k : sj_G X S cl sl L q (.int (x * y) :: rest)) : sj_G X S cl sl L pc (.int y :: .int x :: rest) := by
  obtain ⟨p, l, e, R, s, m, args, below, meth, c, D, cy, A, nL, Q⟩ := X
  obtain ⟨ym, cc, nL0, ret, fr, lo, mc, ms⟩ := M
  obtain ⟨hx, hb, ⟨hml, hnL⟩, hown, hts, ⟨hlk, hret, hnm⟩, hK, hAm, hA, hRR⟩ := C
  subst hq
  intro H locs ls h1 h2 h3
  exact lv_imul hx hb hd (k H locs ls h1 h2 h3)
theorem sj_iand {X : sj_X} {M : sj_M} (C : sj_C X M) {S : sj_St} {cl sl : Nat} {L : List (Option Value)} {pc : Nat} {rest : List Value} {x y : Int32} (q : Nat) (hq : pc + 1 = q) (hd : decode M.2.1 pc = .ok (.iand, 1)) (k : sj_G X S cl sl L q (.int (x &&& y) :: rest)) : sj_G X S cl sl L pc (.int y :: .int x :: rest) := by
  obtain ⟨p, l, e, R, s, m, args, below, meth, c, D, cy, A, nL, Q⟩ := X
  obtain ⟨ym, cc, nL0, ret, fr, lo, mc, ms⟩ := M
  obtain ⟨hx, hb, ⟨hml, hnL⟩, hown, hts, ⟨hlk, hret, hnm⟩, hK, hAm, hA, hRR⟩ := C
  subst hq
  intro H locs ls h1 h2 h3
  exact lv_iand hx hb hd (k H locs ls h1 h2 h3)
theorem sj_ior {X : sj_X} {M : sj_M} (C : sj_C X M) {S : sj_St} {cl sl : Nat} {L : List (Option Value)} {pc : Nat} {rest : List Value} {x y : Int32} (q : Nat) (hq : pc + 1 = q) (hd : decode M.2.1 pc = .ok (.ior, 1)) (k : sj_G X S cl sl L q (.int (x ||| y) :: rest)) : sj_G X S cl sl L pc (.int y :: .int x :: rest) := by
  obtain ⟨p, l, e, R, s, m, args, below, meth, c, D, cy, A, nL, Q⟩ := X
  obtain ⟨ym, cc, nL0, ret, fr, lo, mc, ms⟩ := M
  obtain ⟨hx, hb, ⟨hml, hnL⟩, hown, hts, ⟨hlk, hret, hnm⟩, hK, hAm, hA, hRR⟩ := C
  subst hq
  intro H locs ls h1 h2 h3
  exact lv_ior hx hb hd (k H locs ls h1 h2 h3)
theorem sj_ixor {X : sj_X} {M : sj_M} (C : sj_C X M) {S : sj_St} {cl sl : Nat} {L : List (Option Value)} {pc : Nat} {rest : List Value} {x y : Int32} (q : Nat) (hq : pc + 1 = q) (hd : decode M.2.1 pc = .ok (.ixor, 1)) (k : sj_G X S cl sl L q (.int (x ^^^ y) :: rest)) : sj_G X S cl sl L pc (.int y :: .int x :: rest) := by
  obtain ⟨p, l, e, R, s, m, args, below, meth, c, D, cy, A, nL, Q⟩ := X
  obtain ⟨ym, cc, nL0, ret, fr, lo, mc, ms⟩ := M
  obtain ⟨hx, hb, ⟨hml, hnL⟩, hown, hts, ⟨hlk, hret, hnm⟩, hK, hAm, hA, hRR⟩ := C
  subst hq
  intro H locs ls h1 h2 h3
  exact lv_ixor hx hb hd (k H locs ls h1 h2 h3)
theorem sj_ishl {X : sj_X} {M : sj_M} (C : sj_C X M) {S : sj_St} {cl sl : Nat} {L : List (Option Value)} {pc : Nat} {rest : List Value} {x y : Int32} (q : Nat) (hq : pc + 1 = q) (hd : decode M.2.1 pc = .ok (.ishl, 1)) (k : sj_G X S cl sl L q (.int (x <<< (y &&& 31)) :: rest)) : sj_G X S cl sl L pc (.int y :: .int x :: rest) := by
  obtain ⟨p, l, e, R, s, m, args, below, meth, c, D, cy, A, nL, Q⟩ := X
  obtain ⟨ym, cc, nL0, ret, fr, lo, mc, ms⟩ := M
  obtain ⟨hx, hb, ⟨hml, hnL⟩, hown, hts, ⟨hlk, hret, hnm⟩, hK, hAm, hA, hRR⟩ := C
  subst hq
  intro H locs ls h1 h2 h3
  exact lv_ishl hx hb hd (k H locs ls h1 h2 h3)
theorem sj_ishr {X : sj_X} {M : sj_M} (C : sj_C X M) {S : sj_St} {cl sl : Nat} {L : List (Option Value)} {pc : Nat} {rest : List Value} {x y : Int32} (q : Nat) (hq : pc + 1 = q) (hd : decode M.2.1 pc = .ok (.ishr, 1)) (k : sj_G X S cl sl L q (.int (x >>> (y &&& 31)) :: rest)) : sj_G X S cl sl L pc (.int y :: .int x :: rest) := by
  obtain ⟨p, l, e, R, s, m, args, below, meth, c, D, cy, A, nL, Q⟩ := X
  obtain ⟨ym, cc, nL0, ret, fr, lo, mc, ms⟩ := M
  obtain ⟨hx, hb, ⟨hml, hnL⟩, hown, hts, ⟨hlk, hret, hnm⟩, hK, hAm, hA, hRR⟩ := C
  subst hq
  intro H locs ls h1 h2 h3
  exact lv_ishr hx hb hd (k H locs ls h1 h2 h3)
theorem sj_idiv {X : sj_X} {M : sj_M} (C : sj_C X M) {S : sj_St} {cl sl : Nat} {L : List (Option Value)} {pc : Nat} {rest : List Value} {x y : Int32} (q : Nat) (hq : pc + 1 = q) (hd : decode M.2.1 pc = .ok (.idiv, 1)) (hne : ¬ y = 0) (k : sj_G X S cl sl L q (.int (x / y) :: rest)) : sj_G X S cl sl L pc (.int y :: .int x :: rest) := by
  obtain ⟨p, l, e, R, s, m, args, below, meth, c, D, cy, A, nL, Q⟩ := X
  obtain ⟨ym, cc, nL0, ret, fr, lo, mc, ms⟩ := M
  obtain ⟨hx, hb, ⟨hml, hnL⟩, hown, hts, ⟨hlk, hret, hnm⟩, hK, hAm, hA, hRR⟩ := C
  subst hq
  intro H locs ls h1 h2 h3
  exact lv_idiv hx hb hd hne (k H locs ls h1 h2 h3)
theorem sj_irem {X : sj_X} {M : sj_M} (C : sj_C X M) {S : sj_St} {cl sl : Nat} {L : List (Option Value)} {pc : Nat} {rest : List Value} {x y : Int32} (q : Nat) (hq : pc + 1 = q) (hd : decode M.2.1 pc = .ok (.irem, 1)) (hne : ¬ y = 0) (k : sj_G X S cl sl L q (.int (x - x / y * y) :: rest)) : sj_G X S cl sl L pc (.int y :: .int x :: rest) := by
  obtain ⟨p, l, e, R, s, m, args, below, meth, c, D, cy, A, nL, Q⟩ := X
  obtain ⟨ym, cc, nL0, ret, fr, lo, mc, ms⟩ := M
  obtain ⟨hx, hb, ⟨hml, hnL⟩, hown, hts, ⟨hlk, hret, hnm⟩, hK, hAm, hA, hRR⟩ := C
  subst hq
  intro H locs ls h1 h2 h3
  exact lv_irem hx hb hd hne (k H locs ls h1 h2 h3)
theorem sj_ineg {X : sj_X} {M : sj_M} (C : sj_C X M) {S : sj_St} {cl sl : Nat} {L : List (Option Value)} {pc : Nat} {rest : List Value} {x : Int32} (q : Nat) (hq : pc + 1 = q) (hd : decode M.2.1 pc = .ok (.ineg, 1)) (k : sj_G X S cl sl L q (.int (-x) :: rest)) : sj_G X S cl sl L pc (.int x :: rest) := by
  obtain ⟨p, l, e, R, s, m, args, below, meth, c, D, cy, A, nL, Q⟩ := X
  obtain ⟨ym, cc, nL0, ret, fr, lo, mc, ms⟩ := M
  obtain ⟨hx, hb, ⟨hml, hnL⟩, hown, hts, ⟨hlk, hret, hnm⟩, hK, hAm, hA, hRR⟩ := C
  subst hq
  intro H locs ls h1 h2 h3
  exact lv_ineg hx hb hd (k H locs ls h1 h2 h3)
theorem sj_i2l {X : sj_X} {M : sj_M} (C : sj_C X M) {S : sj_St} {cl sl : Nat} {L : List (Option Value)} {pc : Nat} {rest : List Value} {x : Int32} (q : Nat) (hq : pc + 1 = q) (hd : decode M.2.1 pc = .ok (.i2l, 1)) (k : sj_G X S cl sl L q (.long x.toInt64 :: rest)) : sj_G X S cl sl L pc (.int x :: rest) := by
  obtain ⟨p, l, e, R, s, m, args, below, meth, c, D, cy, A, nL, Q⟩ := X
  obtain ⟨ym, cc, nL0, ret, fr, lo, mc, ms⟩ := M
  obtain ⟨hx, hb, ⟨hml, hnL⟩, hown, hts, ⟨hlk, hret, hnm⟩, hK, hAm, hA, hRR⟩ := C
  subst hq
  intro H locs ls h1 h2 h3
  exact lv_i2l hx hb hd rfl (k H locs ls h1 h2 h3)
theorem sj_ladd {X : sj_X} {M : sj_M} (C : sj_C X M) {S : sj_St} {cl sl : Nat} {L : List (Option Value)} {pc : Nat} {rest : List Value} {x y : Int64} (q : Nat) (hq : pc + 1 = q) (hd : decode M.2.1 pc = .ok (.ladd, 1)) (k : sj_G X S cl sl L q (.long (x + y) :: rest)) : sj_G X S cl sl L pc (.long y :: .long x :: rest) := by
  obtain ⟨p, l, e, R, s, m, args, below, meth, c, D, cy, A, nL, Q⟩ := X
  obtain ⟨ym, cc, nL0, ret, fr, lo, mc, ms⟩ := M
  obtain ⟨hx, hb, ⟨hml, hnL⟩, hown, hts, ⟨hlk, hret, hnm⟩, hK, hAm, hA, hRR⟩ := C
  subst hq
  intro H locs ls h1 h2 h3
  exact lv_ladd hx hb hd (k H locs ls h1 h2 h3)
theorem sj_lsub {X : sj_X} {M : sj_M} (C : sj_C X M) {S : sj_St} {cl sl : Nat} {L : List (Option Value)} {pc : Nat} {rest : List Value} {x y : Int64} (q : Nat) (hq : pc + 1 = q) (hd : decode M.2.1 pc = .ok (.lsub, 1)) (k : sj_G X S cl sl L q (.long (x - y) :: rest)) : sj_G X S cl sl L pc (.long y :: .long x :: rest) := by
  obtain ⟨p, l, e, R, s, m, args, below, meth, c, D, cy, A, nL, Q⟩ := X
  obtain ⟨ym, cc, nL0, ret, fr, lo, mc, ms⟩ := M
  obtain ⟨hx, hb, ⟨hml, hnL⟩, hown, hts, ⟨hlk, hret, hnm⟩, hK, hAm, hA, hRR⟩ := C
  subst hq
  intro H locs ls h1 h2 h3
  exact lv_lsub hx hb hd (k H locs ls h1 h2 h3)
theorem sj_lmul {X : sj_X} {M : sj_M} (C : sj_C X M) {S : sj_St} {cl sl : Nat} {L : List (Option Value)} {pc : Nat} {rest : List Value} {x y : Int64} (q : Nat) (hq : pc + 1 = q) (hd : decode M.2.1 pc = .ok (.lmul, 1)) (k : sj_G X S cl sl L q (.long (x * y) :: rest)) : sj_G X S cl sl L pc (.long y :: .long x :: rest) := by
  obtain ⟨p, l, e, R, s, m, args, below, meth, c, D, cy, A, nL, Q⟩ := X
  obtain ⟨ym, cc, nL0, ret, fr, lo, mc, ms⟩ := M
  obtain ⟨hx, hb, ⟨hml, hnL⟩, hown, hts, ⟨hlk, hret, hnm⟩, hK, hAm, hA, hRR⟩ := C
  subst hq
  intro H locs ls h1 h2 h3
  exact lv_lmul hx hb hd (k H locs ls h1 h2 h3)
theorem sj_lshl {X : sj_X} {M : sj_M} (C : sj_C X M) {S : sj_St} {cl sl : Nat} {L : List (Option Value)} {pc : Nat} {rest : List Value} {x : Int64} {y : Int32} (q : Nat) (hq : pc + 1 = q) (hd : decode M.2.1 pc = .ok (.lshl, 1)) (k : sj_G X S cl sl L q (.long (x <<< (y.toInt64 &&& 63)) :: rest)) : sj_G X S cl sl L pc (.int y :: .long x :: rest) := by
  obtain ⟨p, l, e, R, s, m, args, below, meth, c, D, cy, A, nL, Q⟩ := X
  obtain ⟨ym, cc, nL0, ret, fr, lo, mc, ms⟩ := M
  obtain ⟨hx, hb, ⟨hml, hnL⟩, hown, hts, ⟨hlk, hret, hnm⟩, hK, hAm, hA, hRR⟩ := C
  subst hq
  intro H locs ls h1 h2 h3
  exact lv_lshl hx hb hd rfl (k H locs ls h1 h2 h3)
theorem sj_lcmp {X : sj_X} {M : sj_M} (C : sj_C X M) {S : sj_St} {cl sl : Nat} {L : List (Option Value)} {pc : Nat} {rest : List Value} {x y : Int64} (q : Nat) (hq : pc + 1 = q) (hd : decode M.2.1 pc = .ok (.lcmp, 1)) (k : sj_G X S cl sl L q (.int (lg_cmp x y) :: rest)) : sj_G X S cl sl L pc (.long y :: .long x :: rest) := by
  obtain ⟨p, l, e, R, s, m, args, below, meth, c, D, cy, A, nL, Q⟩ := X
  obtain ⟨ym, cc, nL0, ret, fr, lo, mc, ms⟩ := M
  obtain ⟨hx, hb, ⟨hml, hnL⟩, hown, hts, ⟨hlk, hret, hnm⟩, hK, hAm, hA, hRR⟩ := C
  subst hq
  intro H locs ls h1 h2 h3
  exact W.lcmp hx hb hd (k H locs ls h1 h2 h3)
theorem sj_i2d {X : sj_X} {M : sj_M} (C : sj_C X M) {S : sj_St} {cl sl : Nat} {L : List (Option Value)} {pc : Nat} {rest : List Value} {x : Int32} (q : Nat) (hq : pc + 1 = q) (hd : decode M.2.1 pc = .ok (.i2d, 1)) (k : sj_G X S cl sl L q (.double (FP.i2d x) :: rest)) : sj_G X S cl sl L pc (.int x :: rest) := by
  obtain ⟨p, l, e, R, s, m, args, below, meth, c, D, cy, A, nL, Q⟩ := X
  obtain ⟨ym, cc, nL0, ret, fr, lo, mc, ms⟩ := M
  obtain ⟨hx, hb, ⟨hml, hnL⟩, hown, hts, ⟨hlk, hret, hnm⟩, hK, hAm, hA, hRR⟩ := C
  subst hq
  intro H locs ls h1 h2 h3
  exact lv_i2d hx hb hd (k H locs ls h1 h2 h3)
theorem sj_d2l {X : sj_X} {M : sj_M} (C : sj_C X M) {S : sj_St} {cl sl : Nat} {L : List (Option Value)} {pc : Nat} {rest : List Value} {x : UInt64} (q : Nat) (hq : pc + 1 = q) (hd : decode M.2.1 pc = .ok (.d2l, 1)) (k : sj_G X S cl sl L q (.long (FP.d2l x) :: rest)) : sj_G X S cl sl L pc (.double x :: rest) := by
  obtain ⟨p, l, e, R, s, m, args, below, meth, c, D, cy, A, nL, Q⟩ := X
  obtain ⟨ym, cc, nL0, ret, fr, lo, mc, ms⟩ := M
  obtain ⟨hx, hb, ⟨hml, hnL⟩, hown, hts, ⟨hlk, hret, hnm⟩, hK, hAm, hA, hRR⟩ := C
  subst hq
  intro H locs ls h1 h2 h3
  exact lv_d2l hx hb hd (k H locs ls h1 h2 h3)
theorem sj_dmul {X : sj_X} {M : sj_M} (C : sj_C X M) {S : sj_St} {cl sl : Nat} {L : List (Option Value)} {pc : Nat} {rest : List Value} {x y : UInt64} (q : Nat) (hq : pc + 1 = q) (hd : decode M.2.1 pc = .ok (.dmul, 1)) (hne : vf_n64 (FP.dmul x y)) (k : sj_G X S cl sl L q (.double (FP.dmul x y) :: rest)) : sj_G X S cl sl L pc (.double y :: .double x :: rest) := by
  obtain ⟨p, l, e, R, s, m, args, below, meth, c, D, cy, A, nL, Q⟩ := X
  obtain ⟨ym, cc, nL0, ret, fr, lo, mc, ms⟩ := M
  obtain ⟨hx, hb, ⟨hml, hnL⟩, hown, hts, ⟨hlk, hret, hnm⟩, hK, hAm, hA, hRR⟩ := C
  subst hq
  intro H locs ls h1 h2 h3
  exact lv_dmul hx hb hd hne (k H locs ls h1 h2 h3)
theorem sj_dsub {X : sj_X} {M : sj_M} (C : sj_C X M) {S : sj_St} {cl sl : Nat} {L : List (Option Value)} {pc : Nat} {rest : List Value} {x y : UInt64} (q : Nat) (hq : pc + 1 = q) (hd : decode M.2.1 pc = .ok (.dsub, 1)) (hne : vf_n64 (FP.dsub x y)) (k : sj_G X S cl sl L q (.double (FP.dsub x y) :: rest)) : sj_G X S cl sl L pc (.double y :: .double x :: rest) := by
  obtain ⟨p, l, e, R, s, m, args, below, meth, c, D, cy, A, nL, Q⟩ := X
  obtain ⟨ym, cc, nL0, ret, fr, lo, mc, ms⟩ := M
  obtain ⟨hx, hb, ⟨hml, hnL⟩, hown, hts, ⟨hlk, hret, hnm⟩, hK, hAm, hA, hRR⟩ := C
  subst hq
  intro H locs ls h1 h2 h3
  exact lv_dsub hx hb hd hne (k H locs ls h1 h2 h3)
theorem sj_ddiv {X : sj_X} {M : sj_M} (C : sj_C X M) {S : sj_St} {cl sl : Nat} {L : List (Option Value)} {pc : Nat} {rest : List Value} {x y : UInt64} (q : Nat) (hq : pc + 1 = q) (hd : decode M.2.1 pc = .ok (.ddiv, 1)) (hne : vf_n64 (FP.ddiv x y)) (k : sj_G X S cl sl L q (.double (FP.ddiv x y) :: rest)) : sj_G X S cl sl L pc (.double y :: .double x :: rest) := by
  obtain ⟨p, l, e, R, s, m, args, below, meth, c, D, cy, A, nL, Q⟩ := X
  obtain ⟨ym, cc, nL0, ret, fr, lo, mc, ms⟩ := M
  obtain ⟨hx, hb, ⟨hml, hnL⟩, hown, hts, ⟨hlk, hret, hnm⟩, hK, hAm, hA, hRR⟩ := C
  subst hq
  intro H locs ls h1 h2 h3
  exact lv_ddiv hx hb hd hne (k H locs ls h1 h2 h3)
theorem sj_dcmp {X : sj_X} {M : sj_M} (C : sj_C X M) {S : sj_St} {cl sl : Nat} {L : List (Option Value)} {pc : Nat} {rest : List Value} {x y : UInt64} {op : CmpOp} (q : Nat) (hq : pc + 1 = q) (hd : decode M.2.1 pc = .ok (.dcmp op, 1)) (k : sj_G X S cl sl L q (.int (Op.cmpValue (FP.dcmp x y) op) :: rest)) : sj_G X S cl sl L pc (.double y :: .double x :: rest) := by
  obtain ⟨p, l, e, R, s, m, args, below, meth, c, D, cy, A, nL, Q⟩ := X
  obtain ⟨ym, cc, nL0, ret, fr, lo, mc, ms⟩ := M
  obtain ⟨hx, hb, ⟨hml, hnL⟩, hown, hts, ⟨hlk, hret, hnm⟩, hK, hAm, hA, hRR⟩ := C
  subst hq
  intro H locs ls h1 h2 h3
  exact lv_dcmp hx hb hd (k H locs ls h1 h2 h3)
theorem sj_dconst0 {X : sj_X} {M : sj_M} (C : sj_C X M) {S : sj_St} {cl sl : Nat} {L : List (Option Value)} {pc : Nat} {rest : List Value}  (q : Nat) (hq : pc + 1 = q) (hd : decode M.2.1 pc = .ok (.dconst 0, 1)) (k : sj_G X S cl sl L q (.double FP.dconst0 :: rest)) : sj_G X S cl sl L pc (rest) := by
  obtain ⟨p, l, e, R, s, m, args, below, meth, c, D, cy, A, nL, Q⟩ := X
  obtain ⟨ym, cc, nL0, ret, fr, lo, mc, ms⟩ := M
  obtain ⟨hx, hb, ⟨hml, hnL⟩, hown, hts, ⟨hlk, hret, hnm⟩, hK, hAm, hA, hRR⟩ := C
  subst hq
  intro H locs ls h1 h2 h3
  exact lv_dconst0 hx hb hd (k H locs ls h1 h2 h3)
theorem sj_dconst1 {X : sj_X} {M : sj_M} (C : sj_C X M) {S : sj_St} {cl sl : Nat} {L : List (Option Value)} {pc : Nat} {rest : List Value}  (q : Nat) (hq : pc + 1 = q) (hd : decode M.2.1 pc = .ok (.dconst 1, 1)) (k : sj_G X S cl sl L q (.double FP.dconst1 :: rest)) : sj_G X S cl sl L pc (rest) := by
  obtain ⟨p, l, e, R, s, m, args, below, meth, c, D, cy, A, nL, Q⟩ := X
  obtain ⟨ym, cc, nL0, ret, fr, lo, mc, ms⟩ := M
  obtain ⟨hx, hb, ⟨hml, hnL⟩, hown, hts, ⟨hlk, hret, hnm⟩, hK, hAm, hA, hRR⟩ := C
  subst hq
  intro H locs ls h1 h2 h3
  exact lv_dconst1 hx hb hd (k H locs ls h1 h2 h3)
theorem sj_dup {X : sj_X} {M : sj_M} (C : sj_C X M) {S : sj_St} {cl sl : Nat} {L : List (Option Value)} {pc : Nat} {rest : List Value} {va : Value} (q : Nat) (hq : pc + 1 = q) (hd : decode M.2.1 pc = .ok (.dup, 1)) (hva : va.category = 1) (k : sj_G X S cl sl L q (va :: va :: rest)) : sj_G X S cl sl L pc (va :: rest) := by
  obtain ⟨p, l, e, R, s, m, args, below, meth, c, D, cy, A, nL, Q⟩ := X
  obtain ⟨ym, cc, nL0, ret, fr, lo, mc, ms⟩ := M
  obtain ⟨hx, hb, ⟨hml, hnL⟩, hown, hts, ⟨hlk, hret, hnm⟩, hK, hAm, hA, hRR⟩ := C
  subst hq
  intro H locs ls h1 h2 h3
  exact lv_dup hx hb hd hva (k H locs ls h1 h2 h3)
theorem sj_pop {X : sj_X} {M : sj_M} (C : sj_C X M) {S : sj_St} {cl sl : Nat} {L : List (Option Value)} {pc : Nat} {rest : List Value} {va : Value} (q : Nat) (hq : pc + 1 = q) (hd : decode M.2.1 pc = .ok (.pop, 1)) (hva : va.category = 1) (k : sj_G X S cl sl L q (rest)) : sj_G X S cl sl L pc (va :: rest) := by
  obtain ⟨p, l, e, R, s, m, args, below, meth, c, D, cy, A, nL, Q⟩ := X
  obtain ⟨ym, cc, nL0, ret, fr, lo, mc, ms⟩ := M
  obtain ⟨hx, hb, ⟨hml, hnL⟩, hown, hts, ⟨hlk, hret, hnm⟩, hK, hAm, hA, hRR⟩ := C
  subst hq
  intro H locs ls h1 h2 h3
  exact lv_pop hx hb hd hva (k H locs ls h1 h2 h3)
theorem sj_dup2 {X : sj_X} {M : sj_M} (C : sj_C X M) {S : sj_St} {cl sl : Nat} {L : List (Option Value)} {pc : Nat} {rest : List Value} {va vb : Value} (q : Nat) (hq : pc + 1 = q) (hd : decode M.2.1 pc = .ok (.dup2, 1)) (hva : va.category = 1) (hvb : vb.category = 1) (k : sj_G X S cl sl L q (va :: vb :: va :: vb :: rest)) : sj_G X S cl sl L pc (va :: vb :: rest) := by
  obtain ⟨p, l, e, R, s, m, args, below, meth, c, D, cy, A, nL, Q⟩ := X
  obtain ⟨ym, cc, nL0, ret, fr, lo, mc, ms⟩ := M
  obtain ⟨hx, hb, ⟨hml, hnL⟩, hown, hts, ⟨hlk, hret, hnm⟩, hK, hAm, hA, hRR⟩ := C
  subst hq
  intro H locs ls h1 h2 h3
  exact lv_dup2_11 hx hb hd hva hvb (k H locs ls h1 h2 h3)
theorem sj_iload_n {X : sj_X} {M : sj_M} (C : sj_C X M) {S : sj_St} {cl sl : Nat} {L : List (Option Value)} {pc : Nat} {rest : List Value} {k : Fin 4} {i : Nat} {x : Int32} (q : Nat) (hq : pc + 1 = q) (hd : decode M.2.1 pc = .ok (.iload_n k, 1)) (hi : (k : Nat) = i) (hl : L[i]? = some (some (.int x))) (kk : sj_G X S cl sl L q (.int x :: rest)) : sj_G X S cl sl L pc rest := by
  obtain ⟨p, l, e, R, s, m, args, below, meth, c, D, cy, A, nL, Q⟩ := X
  obtain ⟨ym, cc, nL0, ret, fr, lo, mc, ms⟩ := M
  obtain ⟨hx, hb, ⟨hml, hnL⟩, hown, hts, ⟨hlk, hret, hnm⟩, hK, hAm, hA, hRR⟩ := C
  subst hq
  intro H locs ls h1 h2 h3
  have h4 : ls[i]? = some (.val (.int x)) := by
    have h5 := h3.2.2 _ (sj_lv_mem L 0 i _ hl)
    simpa using h5
  exact lv_iload_n hx hb hd hi h4 (kk H locs ls h1 h2 h3)
theorem sj_iload {X : sj_X} {M : sj_M} (C : sj_C X M) {S : sj_St} {cl sl : Nat} {L : List (Option Value)} {pc : Nat} {rest : List Value} {i : Nat} {x : Int32} (q : Nat) (hq : pc + 2 = q) (hd : decode M.2.1 pc = .ok (.iload i, 2)) (hl : L[i]? = some (some (.int x))) (kk : sj_G X S cl sl L q (.int x :: rest)) : sj_G X S cl sl L pc rest := by
  obtain ⟨p, l, e, R, s, m, args, below, meth, c, D, cy, A, nL, Q⟩ := X
  obtain ⟨ym, cc, nL0, ret, fr, lo, mc, ms⟩ := M
  obtain ⟨hx, hb, ⟨hml, hnL⟩, hown, hts, ⟨hlk, hret, hnm⟩, hK, hAm, hA, hRR⟩ := C
  subst hq
  intro H locs ls h1 h2 h3
  have h4 : ls[i]? = some (.val (.int x)) := by
    have h5 := h3.2.2 _ (sj_lv_mem L 0 i _ hl)
    simpa using h5
  exact lv_iload hx hb hd h4 (kk H locs ls h1 h2 h3)
theorem sj_aload_n {X : sj_X} {M : sj_M} (C : sj_C X M) {S : sj_St} {cl sl : Nat} {L : List (Option Value)} {pc : Nat} {rest : List Value} {k : Fin 4} {i : Nat} {x : Nat} (q : Nat) (hq : pc + 1 = q) (hd : decode M.2.1 pc = .ok (.aload_n k, 1)) (hi : (k : Nat) = i) (hl : L[i]? = some (some (.ref x))) (kk : sj_G X S cl sl L q (.ref x :: rest)) : sj_G X S cl sl L pc rest := by
  obtain ⟨p, l, e, R, s, m, args, below, meth, c, D, cy, A, nL, Q⟩ := X
  obtain ⟨ym, cc, nL0, ret, fr, lo, mc, ms⟩ := M
  obtain ⟨hx, hb, ⟨hml, hnL⟩, hown, hts, ⟨hlk, hret, hnm⟩, hK, hAm, hA, hRR⟩ := C
  subst hq
  intro H locs ls h1 h2 h3
  have h4 : ls[i]? = some (.val (.ref x)) := by
    have h5 := h3.2.2 _ (sj_lv_mem L 0 i _ hl)
    simpa using h5
  exact lv_aload_n hx hb hd hi h4 (kk H locs ls h1 h2 h3)
theorem sj_aload {X : sj_X} {M : sj_M} (C : sj_C X M) {S : sj_St} {cl sl : Nat} {L : List (Option Value)} {pc : Nat} {rest : List Value} {i : Nat} {x : Nat} (q : Nat) (hq : pc + 2 = q) (hd : decode M.2.1 pc = .ok (.aload i, 2)) (hl : L[i]? = some (some (.ref x))) (kk : sj_G X S cl sl L q (.ref x :: rest)) : sj_G X S cl sl L pc rest := by
  obtain ⟨p, l, e, R, s, m, args, below, meth, c, D, cy, A, nL, Q⟩ := X
  obtain ⟨ym, cc, nL0, ret, fr, lo, mc, ms⟩ := M
  obtain ⟨hx, hb, ⟨hml, hnL⟩, hown, hts, ⟨hlk, hret, hnm⟩, hK, hAm, hA, hRR⟩ := C
  subst hq
  intro H locs ls h1 h2 h3
  have h4 : ls[i]? = some (.val (.ref x)) := by
    have h5 := h3.2.2 _ (sj_lv_mem L 0 i _ hl)
    simpa using h5
  exact lv_aload hx hb hd h4 (kk H locs ls h1 h2 h3)
theorem sj_lload_n {X : sj_X} {M : sj_M} (C : sj_C X M) {S : sj_St} {cl sl : Nat} {L : List (Option Value)} {pc : Nat} {rest : List Value} {k : Fin 4} {i : Nat} {x : Int64} (q : Nat) (hq : pc + 1 = q) (hd : decode M.2.1 pc = .ok (.lload_n k, 1)) (hi : (k : Nat) = i) (hl : L[i]? = some (some (.long x))) (kk : sj_G X S cl sl L q (.long x :: rest)) : sj_G X S cl sl L pc rest := by
  obtain ⟨p, l, e, R, s, m, args, below, meth, c, D, cy, A, nL, Q⟩ := X
  obtain ⟨ym, cc, nL0, ret, fr, lo, mc, ms⟩ := M
  obtain ⟨hx, hb, ⟨hml, hnL⟩, hown, hts, ⟨hlk, hret, hnm⟩, hK, hAm, hA, hRR⟩ := C
  subst hq
  intro H locs ls h1 h2 h3
  have h4 : ls[i]? = some (.val (.long x)) := by
    have h5 := h3.2.2 _ (sj_lv_mem L 0 i _ hl)
    simpa using h5
  exact lv_lload_n hx hb hd hi h4 (kk H locs ls h1 h2 h3)
theorem sj_lload {X : sj_X} {M : sj_M} (C : sj_C X M) {S : sj_St} {cl sl : Nat} {L : List (Option Value)} {pc : Nat} {rest : List Value} {i : Nat} {x : Int64} (q : Nat) (hq : pc + 2 = q) (hd : decode M.2.1 pc = .ok (.lload i, 2)) (hl : L[i]? = some (some (.long x))) (kk : sj_G X S cl sl L q (.long x :: rest)) : sj_G X S cl sl L pc rest := by
  obtain ⟨p, l, e, R, s, m, args, below, meth, c, D, cy, A, nL, Q⟩ := X
  obtain ⟨ym, cc, nL0, ret, fr, lo, mc, ms⟩ := M
  obtain ⟨hx, hb, ⟨hml, hnL⟩, hown, hts, ⟨hlk, hret, hnm⟩, hK, hAm, hA, hRR⟩ := C
  subst hq
  intro H locs ls h1 h2 h3
  have h4 : ls[i]? = some (.val (.long x)) := by
    have h5 := h3.2.2 _ (sj_lv_mem L 0 i _ hl)
    simpa using h5
  exact lv_lload hx hb hd h4 (kk H locs ls h1 h2 h3)
theorem sj_dload_n {X : sj_X} {M : sj_M} (C : sj_C X M) {S : sj_St} {cl sl : Nat} {L : List (Option Value)} {pc : Nat} {rest : List Value} {k : Fin 4} {i : Nat} {x : UInt64} (q : Nat) (hq : pc + 1 = q) (hd : decode M.2.1 pc = .ok (.dload_n k, 1)) (hi : (k : Nat) = i) (hl : L[i]? = some (some (.double x))) (kk : sj_G X S cl sl L q (.double x :: rest)) : sj_G X S cl sl L pc rest := by
  obtain ⟨p, l, e, R, s, m, args, below, meth, c, D, cy, A, nL, Q⟩ := X
  obtain ⟨ym, cc, nL0, ret, fr, lo, mc, ms⟩ := M
  obtain ⟨hx, hb, ⟨hml, hnL⟩, hown, hts, ⟨hlk, hret, hnm⟩, hK, hAm, hA, hRR⟩ := C
  subst hq
  intro H locs ls h1 h2 h3
  have h4 : ls[i]? = some (.val (.double x)) := by
    have h5 := h3.2.2 _ (sj_lv_mem L 0 i _ hl)
    simpa using h5
  exact lv_dload_n hx hb hd hi h4 (kk H locs ls h1 h2 h3)
theorem sj_dload {X : sj_X} {M : sj_M} (C : sj_C X M) {S : sj_St} {cl sl : Nat} {L : List (Option Value)} {pc : Nat} {rest : List Value} {i : Nat} {x : UInt64} (q : Nat) (hq : pc + 2 = q) (hd : decode M.2.1 pc = .ok (.dload i, 2)) (hl : L[i]? = some (some (.double x))) (kk : sj_G X S cl sl L q (.double x :: rest)) : sj_G X S cl sl L pc rest := by
  obtain ⟨p, l, e, R, s, m, args, below, meth, c, D, cy, A, nL, Q⟩ := X
  obtain ⟨ym, cc, nL0, ret, fr, lo, mc, ms⟩ := M
  obtain ⟨hx, hb, ⟨hml, hnL⟩, hown, hts, ⟨hlk, hret, hnm⟩, hK, hAm, hA, hRR⟩ := C
  subst hq
  intro H locs ls h1 h2 h3
  have h4 : ls[i]? = some (.val (.double x)) := by
    have h5 := h3.2.2 _ (sj_lv_mem L 0 i _ hl)
    simpa using h5
  exact lv_dload hx hb hd h4 (kk H locs ls h1 h2 h3)
theorem sj_ok_use {L : List (Option Value)} {i j : Nat} {w : Value} (h : sj_okb L i = true) (hj : L[j]? = some (some w)) (hji : j + 1 = i) : (w.category == 2) = false := by
  subst hji
  simp only [sj_okb, hj] at h
  simpa using h
theorem sj_keep {L : List (Option Value)} {i : Nat} {v : Value} (hok : sj_okb L i = true) : ∀ z ∈ sj_lv 0 (L.set i (some v)), z ∈ (i, v) :: (sj_lv 0 L).filter (fun q => !(q.1 == i) && !(q.1 + 1 == i && q.2.category == 2)) := by
  intro z hz
  obtain ⟨k, h1, h2⟩ := sj_lv_inv _ _ _ hz
  have h0 : z.1 = k := by omega
  by_cases hk : k = i
  · subst hk
    have hlt : k < L.length := by
      rcases Nat.lt_or_ge k L.length with h | h
      · exact h
      · rw [List.set_eq_of_length_le h, List.getElem?_eq_none h] at h2
        cases h2
    rw [List.getElem?_set_self hlt] at h2
    have h3 : v = z.2 := by simpa using h2
    refine List.mem_cons.mpr (Or.inl ?_)
    rw [h3, ← h0]
  · rw [List.getElem?_set_ne (fun h => hk h.symm)] at h2
    refine List.mem_cons_of_mem _ (List.mem_filter.mpr ⟨?_, ?_⟩)
    · have h5 := sj_lv_mem L 0 k _ h2
      rw [Nat.zero_add, ← h0] at h5
      exact h5
    · have h6 : (z.1 == i) = false := by simpa [h0] using hk
      by_cases h7 : k + 1 = i
      · have h8 := sj_ok_use hok h2 h7
        simp [h6, h8]
      · have h9 : (z.1 + 1 == i) = false := by simpa [h0] using h7
        simp [h6, h9]
theorem sj_keep2 {L : List (Option Value)} {i : Nat} {v : Value} (hok : sj_okb L i = true) : ∀ z ∈ sj_lv 0 ((L.set i (some v)).set (i + 1) none), z ∈ (i, v) :: (sj_lv 0 L).filter (fun q => !(q.1 == i) && (!(q.1 == i + 1) && !(q.1 + 1 == i && q.2.category == 2))) := by
  intro z hz
  obtain ⟨k, h1, h2⟩ := sj_lv_inv _ _ _ hz
  have h0 : z.1 = k := by omega
  by_cases hk1 : k = i + 1
  · subst hk1
    rcases Nat.lt_or_ge (i + 1) (L.set i (some v)).length with h | h
    · rw [List.getElem?_set_self h] at h2
      cases h2
    · rw [List.set_eq_of_length_le h, List.getElem?_eq_none h] at h2
      cases h2
  rw [List.getElem?_set_ne (fun h => hk1 h.symm)] at h2
  by_cases hk : k = i
  · subst hk
    have hlt : k < L.length := by
      rcases Nat.lt_or_ge k L.length with h | h
      · exact h
      · rw [List.set_eq_of_length_le h, List.getElem?_eq_none h] at h2
        cases h2
    rw [List.getElem?_set_self hlt] at h2
    have h3 : v = z.2 := by simpa using h2
    refine List.mem_cons.mpr (Or.inl ?_)
    rw [h3, ← h0]
  · rw [List.getElem?_set_ne (fun h => hk h.symm)] at h2
    refine List.mem_cons_of_mem _ (List.mem_filter.mpr ⟨?_, ?_⟩)
    · have h5 := sj_lv_mem L 0 k _ h2
      rw [Nat.zero_add, ← h0] at h5
      exact h5
    · have h6 : (z.1 == i) = false := by simpa [h0] using hk
      have h6' : (z.1 == i + 1) = false := by simpa [h0] using hk1
      by_cases h7 : k + 1 = i
      · have h8 := sj_ok_use hok h2 h7
        simp [h6, h6', h8]
      · have h9 : (z.1 + 1 == i) = false := by simpa [h0] using h7
        simp [h6, h6', h9]
theorem sj_istore_n0 {X : sj_X} {M : sj_M} (C : sj_C X M) {S : sj_St} {cl sl : Nat} {L : List (Option Value)} {pc : Nat} {rest : List Value} {k : Fin 4} {i : Nat} {x : Int32} (q : Nat) (hq : pc + 1 = q) (hd : decode M.2.1 pc = .ok (.istore_n k, 1)) (hi : (k : Nat) = i) (hn : Nat.ble (i + 1) M.2.2.1 = true) (hok : sj_okb L i = true) (kk : sj_G X S cl sl (L.set i (some (.int x))) q rest) : sj_G X S cl sl L pc (.int x :: rest) := by
  obtain ⟨p, l, e, R, s, m, args, below, meth, c, D, cy, A, nL, Q⟩ := X
  obtain ⟨ym, cc, nL0, ret, fr, lo, mc, ms⟩ := M
  obtain ⟨hx, hb, ⟨hml, hnL⟩, hown, hts, ⟨hlk, hret, hnm⟩, hK, hAm, hA, hRR⟩ := C
  subst hq
  subst hnL
  intro H locs ls h1 h2 h3
  refine lv_istore_n hx hb hd hi h3 (Nat.le_of_ble_eq_true hn) rfl (fun ls' h4 => kk H locs ls' h1 h2 ⟨h4.1, h4.2.1, fun z hz => h4.2.2 z ?_⟩)
  exact sj_keep hok z hz
theorem sj_istore0 {X : sj_X} {M : sj_M} (C : sj_C X M) {S : sj_St} {cl sl : Nat} {L : List (Option Value)} {pc : Nat} {rest : List Value} {i : Nat} {x : Int32} (q : Nat) (hq : pc + 2 = q) (hd : decode M.2.1 pc = .ok (.istore i, 2)) (hn : Nat.ble (i + 1) M.2.2.1 = true) (hok : sj_okb L i = true) (kk : sj_G X S cl sl (L.set i (some (.int x))) q rest) : sj_G X S cl sl L pc (.int x :: rest) := by
  obtain ⟨p, l, e, R, s, m, args, below, meth, c, D, cy, A, nL, Q⟩ := X
  obtain ⟨ym, cc, nL0, ret, fr, lo, mc, ms⟩ := M
  obtain ⟨hx, hb, ⟨hml, hnL⟩, hown, hts, ⟨hlk, hret, hnm⟩, hK, hAm, hA, hRR⟩ := C
  subst hq
  subst hnL
  intro H locs ls h1 h2 h3
  refine lv_istore hx hb hd h3 (Nat.le_of_ble_eq_true hn) rfl (fun ls' h4 => kk H locs ls' h1 h2 ⟨h4.1, h4.2.1, fun z hz => h4.2.2 z ?_⟩)
  exact sj_keep hok z hz
theorem sj_astore_n0 {X : sj_X} {M : sj_M} (C : sj_C X M) {S : sj_St} {cl sl : Nat} {L : List (Option Value)} {pc : Nat} {rest : List Value} {k : Fin 4} {i : Nat} {x : Nat} (q : Nat) (hq : pc + 1 = q) (hd : decode M.2.1 pc = .ok (.astore_n k, 1)) (hi : (k : Nat) = i) (hn : Nat.ble (i + 1) M.2.2.1 = true) (hok : sj_okb L i = true) (kk : sj_G X S cl sl (L.set i (some (.ref x))) q rest) : sj_G X S cl sl L pc (.ref x :: rest) := by
  obtain ⟨p, l, e, R, s, m, args, below, meth, c, D, cy, A, nL, Q⟩ := X
  obtain ⟨ym, cc, nL0, ret, fr, lo, mc, ms⟩ := M
  obtain ⟨hx, hb, ⟨hml, hnL⟩, hown, hts, ⟨hlk, hret, hnm⟩, hK, hAm, hA, hRR⟩ := C
  subst hq
  subst hnL
  intro H locs ls h1 h2 h3
  refine lv_astore_n hx hb hd hi h3 (Nat.le_of_ble_eq_true hn) rfl (fun ls' h4 => kk H locs ls' h1 h2 ⟨h4.1, h4.2.1, fun z hz => h4.2.2 z ?_⟩)
  exact sj_keep hok z hz
theorem sj_astore0 {X : sj_X} {M : sj_M} (C : sj_C X M) {S : sj_St} {cl sl : Nat} {L : List (Option Value)} {pc : Nat} {rest : List Value} {i : Nat} {x : Nat} (q : Nat) (hq : pc + 2 = q) (hd : decode M.2.1 pc = .ok (.astore i, 2)) (hn : Nat.ble (i + 1) M.2.2.1 = true) (hok : sj_okb L i = true) (kk : sj_G X S cl sl (L.set i (some (.ref x))) q rest) : sj_G X S cl sl L pc (.ref x :: rest) := by
  obtain ⟨p, l, e, R, s, m, args, below, meth, c, D, cy, A, nL, Q⟩ := X
  obtain ⟨ym, cc, nL0, ret, fr, lo, mc, ms⟩ := M
  obtain ⟨hx, hb, ⟨hml, hnL⟩, hown, hts, ⟨hlk, hret, hnm⟩, hK, hAm, hA, hRR⟩ := C
  subst hq
  subst hnL
  intro H locs ls h1 h2 h3
  refine lv_astore hx hb hd h3 (Nat.le_of_ble_eq_true hn) rfl (fun ls' h4 => kk H locs ls' h1 h2 ⟨h4.1, h4.2.1, fun z hz => h4.2.2 z ?_⟩)
  exact sj_keep hok z hz
theorem sj_lstore_n0 {X : sj_X} {M : sj_M} (C : sj_C X M) {S : sj_St} {cl sl : Nat} {L : List (Option Value)} {pc : Nat} {rest : List Value} {k : Fin 4} {i : Nat} {x : Int64} (q : Nat) (hq : pc + 1 = q) (hd : decode M.2.1 pc = .ok (.lstore_n k, 1)) (hi : (k : Nat) = i) (hn : Nat.ble (i + 2) M.2.2.1 = true) (hok : sj_okb L i = true) (kk : sj_G X S cl sl ((L.set i (some (.long x))).set (i + 1) none) q rest) : sj_G X S cl sl L pc (.long x :: rest) := by
  obtain ⟨p, l, e, R, s, m, args, below, meth, c, D, cy, A, nL, Q⟩ := X
  obtain ⟨ym, cc, nL0, ret, fr, lo, mc, ms⟩ := M
  obtain ⟨hx, hb, ⟨hml, hnL⟩, hown, hts, ⟨hlk, hret, hnm⟩, hK, hAm, hA, hRR⟩ := C
  subst hq
  subst hnL
  intro H locs ls h1 h2 h3
  refine lv_lstore_n hx hb hd hi h3 (Nat.le_of_ble_eq_true hn) rfl (fun ls' h4 => kk H locs ls' h1 h2 ⟨h4.1, h4.2.1, fun z hz => h4.2.2 z ?_⟩)
  exact sj_keep2 hok z hz
theorem sj_lstore0 {X : sj_X} {M : sj_M} (C : sj_C X M) {S : sj_St} {cl sl : Nat} {L : List (Option Value)} {pc : Nat} {rest : List Value} {i : Nat} {x : Int64} (q : Nat) (hq : pc + 2 = q) (hd : decode M.2.1 pc = .ok (.lstore i, 2)) (hn : Nat.ble (i + 2) M.2.2.1 = true) (hok : sj_okb L i = true) (kk : sj_G X S cl sl ((L.set i (some (.long x))).set (i + 1) none) q rest) : sj_G X S cl sl L pc (.long x :: rest) := by
  obtain ⟨p, l, e, R, s, m, args, below, meth, c, D, cy, A, nL, Q⟩ := X
  obtain ⟨ym, cc, nL0, ret, fr, lo, mc, ms⟩ := M
  obtain ⟨hx, hb, ⟨hml, hnL⟩, hown, hts, ⟨hlk, hret, hnm⟩, hK, hAm, hA, hRR⟩ := C
  subst hq
  subst hnL
  intro H locs ls h1 h2 h3
  refine lv_lstore hx hb hd h3 (Nat.le_of_ble_eq_true hn) rfl (fun ls' h4 => kk H locs ls' h1 h2 ⟨h4.1, h4.2.1, fun z hz => h4.2.2 z ?_⟩)
  exact sj_keep2 hok z hz
theorem sj_dstore_n0 {X : sj_X} {M : sj_M} (C : sj_C X M) {S : sj_St} {cl sl : Nat} {L : List (Option Value)} {pc : Nat} {rest : List Value} {k : Fin 4} {i : Nat} {x : UInt64} (q : Nat) (hq : pc + 1 = q) (hd : decode M.2.1 pc = .ok (.dstore_n k, 1)) (hi : (k : Nat) = i) (hn : Nat.ble (i + 2) M.2.2.1 = true) (hok : sj_okb L i = true) (kk : sj_G X S cl sl ((L.set i (some (.double x))).set (i + 1) none) q rest) : sj_G X S cl sl L pc (.double x :: rest) := by
  obtain ⟨p, l, e, R, s, m, args, below, meth, c, D, cy, A, nL, Q⟩ := X
  obtain ⟨ym, cc, nL0, ret, fr, lo, mc, ms⟩ := M
  obtain ⟨hx, hb, ⟨hml, hnL⟩, hown, hts, ⟨hlk, hret, hnm⟩, hK, hAm, hA, hRR⟩ := C
  subst hq
  subst hnL
  intro H locs ls h1 h2 h3
  refine lv_dstore_n hx hb hd hi h3 (Nat.le_of_ble_eq_true hn) rfl (fun ls' h4 => kk H locs ls' h1 h2 ⟨h4.1, h4.2.1, fun z hz => h4.2.2 z ?_⟩)
  exact sj_keep2 hok z hz
theorem sj_dstore0 {X : sj_X} {M : sj_M} (C : sj_C X M) {S : sj_St} {cl sl : Nat} {L : List (Option Value)} {pc : Nat} {rest : List Value} {i : Nat} {x : UInt64} (q : Nat) (hq : pc + 2 = q) (hd : decode M.2.1 pc = .ok (.dstore i, 2)) (hn : Nat.ble (i + 2) M.2.2.1 = true) (hok : sj_okb L i = true) (kk : sj_G X S cl sl ((L.set i (some (.double x))).set (i + 1) none) q rest) : sj_G X S cl sl L pc (.double x :: rest) := by
  obtain ⟨p, l, e, R, s, m, args, below, meth, c, D, cy, A, nL, Q⟩ := X
  obtain ⟨ym, cc, nL0, ret, fr, lo, mc, ms⟩ := M
  obtain ⟨hx, hb, ⟨hml, hnL⟩, hown, hts, ⟨hlk, hret, hnm⟩, hK, hAm, hA, hRR⟩ := C
  subst hq
  subst hnL
  intro H locs ls h1 h2 h3
  refine lv_dstore hx hb hd h3 (Nat.le_of_ble_eq_true hn) rfl (fun ls' h4 => kk H locs ls' h1 h2 ⟨h4.1, h4.2.1, fun z hz => h4.2.2 z ?_⟩)
  exact sj_keep2 hok z hz
theorem sj_iinc0 {X : sj_X} {M : sj_M} (C : sj_C X M) {S : sj_St} {cl sl : Nat} {L : List (Option Value)} {pc : Nat} {rest : List Value} {i : Nat} {n : Int} {x : Int32} (q : Nat) (hq : pc + 3 = q) (hd : decode M.2.1 pc = .ok (.iinc i n, 3)) (hn : Nat.ble (i + 1) M.2.2.1 = true) (hok : sj_okb L i = true) (hl : L[i]? = some (some (.int x))) (kk : sj_G X S cl sl (L.set i (some (.int (x + Int32.ofInt n)))) q rest) : sj_G X S cl sl L pc rest := by
  obtain ⟨p, l, e, R, s, m, args, below, meth, c, D, cy, A, nL, Q⟩ := X
  obtain ⟨ym, cc, nL0, ret, fr, lo, mc, ms⟩ := M
  obtain ⟨hx, hb, ⟨hml, hnL⟩, hown, hts, ⟨hlk, hret, hnm⟩, hK, hAm, hA, hRR⟩ := C
  subst hq
  subst hnL
  intro H locs ls h1 h2 h3
  have h5 := sj_lv_mem L 0 i _ hl
  rw [Nat.zero_add] at h5
  obtain ⟨k0, hk0⟩ := List.getElem?_of_mem h5
  refine lv_iinc hx hb hd h3 hk0 rfl (Nat.le_of_ble_eq_true hn) rfl (fun ls' h4 => kk H locs ls' h1 h2 ⟨h4.1, h4.2.1, fun z hz => h4.2.2 z ?_⟩)
  exact sj_keep hok z hz
theorem sj_forget {X : sj_X} {S : sj_St} {cl sl : Nat} {L : List (Option Value)} {pc : Nat} {rest : List Value} (L' : List (Option Value)) (h : ∀ (k : Nat) (v : Value), L'[k]? = some (some v) → L[k]? = some (some v)) (kk : sj_G X S cl sl L' pc rest) : sj_G X S cl sl L pc rest := by
  obtain ⟨p, l, e, R, s, m, args, below, meth, c, D, cy, A, nL, Q⟩ := X
  intro H locs ls h1 h2 h3
  refine kk H locs ls h1 h2 ⟨h3.1, h3.2.1, fun z hz => h3.2.2 z ?_⟩
  obtain ⟨k, e1, e2⟩ := sj_lv_inv _ _ _ hz
  have h5 := sj_lv_mem L 0 k _ (h k _ e2)
  have h6 : z.1 = 0 + k := e1
  rw [← h6] at h5
  exact h5
def sj_sub : List (Option Value) → List (Option Value) → Prop
  | [], _ => True
  | none :: t, [] => sj_sub t []
  | some _ :: _, [] => False
  | none :: t, _ :: u => sj_sub t u
  | some v :: t, w :: u => w = some v ∧ sj_sub t u
theorem sj_sub_of : ∀ (L' L : List (Option Value)), sj_sub L' L → ∀ (k : Nat) (v : Value), L'[k]? = some (some v) → L[k]? = some (some v)
  | [], _, _, k, v, hk => by simp at hk
  | none :: t, [], h, 0, v, hk => by simp at hk
  | none :: t, [], h, k + 1, v, hk => by
    have := sj_sub_of t [] h k v (by simpa using hk)
    simp at this
  | none :: t, _ :: u, h, 0, v, hk => by simp at hk
  | none :: t, _ :: u, h, k + 1, v, hk => by
    have := sj_sub_of t u h k v (by simpa using hk)
    simpa using this
  | some a :: t, [], h, k, v, hk => h.elim
  | some a :: t, w :: u, h, 0, v, hk => by
    have h1 : a = v := by simpa using hk
    subst h1
    simpa using h.1
  | some a :: t, w :: u, h, k + 1, v, hk => by
    have := sj_sub_of t u h.2 k v (by simpa using hk)
    simpa using this
theorem sj_for {X : sj_X} {S : sj_St} {cl sl : Nat} {L : List (Option Value)} {pc : Nat} {rest : List Value} (L' : List (Option Value)) (h : sj_sub L' L) (kk : sj_G X S cl sl L' pc rest) : sj_G X S cl sl L pc rest := sj_forget L' (sj_sub_of L' L h) kk
theorem sj_istore_n_0 {X : sj_X} {M : sj_M} (C : sj_C X M) {S : sj_St} {cl sl : Nat} {t : List (Option Value)} {b : Option Value} {pc : Nat} {rest : List Value} {x : Int32} (q : Nat) (hq : pc + 1 = q) (hd : decode M.2.1 pc = .ok (.istore_n 0, 1)) (hn : Nat.ble 1 M.2.2.1 = true) (hok : sj_okb (b :: t) 0 = true) (kk : sj_G X S cl sl (some (.int x) :: t) q rest) : sj_G X S cl sl (b :: t) pc (.int x :: rest) := sj_istore_n0 (i := 0) C q hq hd rfl hn hok kk
theorem sj_istore_0 {X : sj_X} {M : sj_M} (C : sj_C X M) {S : sj_St} {cl sl : Nat} {t : List (Option Value)} {b : Option Value} {pc : Nat} {rest : List Value} {x : Int32} (q : Nat) (hq : pc + 2 = q) (hd : decode M.2.1 pc = .ok (.istore 0, 2)) (hn : Nat.ble 1 M.2.2.1 = true) (hok : sj_okb (b :: t) 0 = true) (kk : sj_G X S cl sl (some (.int x) :: t) q rest) : sj_G X S cl sl (b :: t) pc (.int x :: rest) := sj_istore0 (i := 0) C q hq hd hn hok kk
theorem sj_istore_n_1 {X : sj_X} {M : sj_M} (C : sj_C X M) {S : sj_St} {cl sl : Nat} {t : List (Option Value)} {a0 b : Option Value} {pc : Nat} {rest : List Value} {x : Int32} (q : Nat) (hq : pc + 1 = q) (hd : decode M.2.1 pc = .ok (.istore_n 1, 1)) (hn : Nat.ble 2 M.2.2.1 = true) (hok : sj_okb (a0 :: b :: t) 1 = true) (kk : sj_G X S cl sl (a0 :: some (.int x) :: t) q rest) : sj_G X S cl sl (a0 :: b :: t) pc (.int x :: rest) := sj_istore_n0 (i := 1) C q hq hd rfl hn hok kk
theorem sj_istore_1 {X : sj_X} {M : sj_M} (C : sj_C X M) {S : sj_St} {cl sl : Nat} {t : List (Option Value)} {a0 b : Option Value} {pc : Nat} {rest : List Value} {x : Int32} (q : Nat) (hq : pc + 2 = q) (hd : decode M.2.1 pc = .ok (.istore 1, 2)) (hn : Nat.ble 2 M.2.2.1 = true) (hok : sj_okb (a0 :: b :: t) 1 = true) (kk : sj_G X S cl sl (a0 :: some (.int x) :: t) q rest) : sj_G X S cl sl (a0 :: b :: t) pc (.int x :: rest) := sj_istore0 (i := 1) C q hq hd hn hok kk
theorem sj_istore_n_2 {X : sj_X} {M : sj_M} (C : sj_C X M) {S : sj_St} {cl sl : Nat} {t : List (Option Value)} {a0 a1 b : Option Value} {pc : Nat} {rest : List Value} {x : Int32} (q : Nat) (hq : pc + 1 = q) (hd : decode M.2.1 pc = .ok (.istore_n 2, 1)) (hn : Nat.ble 3 M.2.2.1 = true) (hok : sj_okb (a0 :: a1 :: b :: t) 2 = true) (kk : sj_G X S cl sl (a0 :: a1 :: some (.int x) :: t) q rest) : sj_G X S cl sl (a0 :: a1 :: b :: t) pc (.int x :: rest) := sj_istore_n0 (i := 2) C q hq hd rfl hn hok kk
theorem sj_istore_2 {X : sj_X} {M : sj_M} (C : sj_C X M) {S : sj_St} {cl sl : Nat} {t : List (Option Value)} {a0 a1 b : Option Value} {pc : Nat} {rest : List Value} {x : Int32} (q : Nat) (hq : pc + 2 = q) (hd : decode M.2.1 pc = .ok (.istore 2, 2)) (hn : Nat.ble 3 M.2.2.1 = true) (hok : sj_okb (a0 :: a1 :: b :: t) 2 = true) (kk : sj_G X S cl sl (a0 :: a1 :: some (.int x) :: t) q rest) : sj_G X S cl sl (a0 :: a1 :: b :: t) pc (.int x :: rest) := sj_istore0 (i := 2) C q hq hd hn hok kk
theorem sj_istore_n_3 {X : sj_X} {M : sj_M} (C : sj_C X M) {S : sj_St} {cl sl : Nat} {t : List (Option Value)} {a0 a1 a2 b : Option Value} {pc : Nat} {rest : List Value} {x : Int32} (q : Nat) (hq : pc + 1 = q) (hd : decode M.2.1 pc = .ok (.istore_n 3, 1)) (hn : Nat.ble 4 M.2.2.1 = true) (hok : sj_okb (a0 :: a1 :: a2 :: b :: t) 3 = true) (kk : sj_G X S cl sl (a0 :: a1 :: a2 :: some (.int x) :: t) q rest) : sj_G X S cl sl (a0 :: a1 :: a2 :: b :: t) pc (.int x :: rest) := sj_istore_n0 (i := 3) C q hq hd rfl hn hok kk
theorem sj_istore_3 {X : sj_X} {M : sj_M} (C : sj_C X M) {S : sj_St} {cl sl : Nat} {t : List (Option Value)} {a0 a1 a2 b : Option Value} {pc : Nat} {rest : List Value} {x : Int32} (q : Nat) (hq : pc + 2 = q) (hd : decode M.2.1 pc = .ok (.istore 3, 2)) (hn : Nat.ble 4 M.2.2.1 = true) (hok : sj_okb (a0 :: a1 :: a2 :: b :: t) 3 = true) (kk : sj_G X S cl sl (a0 :: a1 :: a2 :: some (.int x) :: t) q rest) : sj_G X S cl sl (a0 :: a1 :: a2 :: b :: t) pc (.int x :: rest) := sj_istore0 (i := 3) C q hq hd hn hok kk
theorem sj_istore_4 {X : sj_X} {M : sj_M} (C : sj_C X M) {S : sj_St} {cl sl : Nat} {t : List (Option Value)} {a0 a1 a2 a3 b : Option Value} {pc : Nat} {rest : List Value} {x : Int32} (q : Nat) (hq : pc + 2 = q) (hd : decode M.2.1 pc = .ok (.istore 4, 2)) (hn : Nat.ble 5 M.2.2.1 = true) (hok : sj_okb (a0 :: a1 :: a2 :: a3 :: b :: t) 4 = true) (kk : sj_G X S cl sl (a0 :: a1 :: a2 :: a3 :: some (.int x) :: t) q rest) : sj_G X S cl sl (a0 :: a1 :: a2 :: a3 :: b :: t) pc (.int x :: rest) := sj_istore0 (i := 4) C q hq hd hn hok kk
theorem sj_istore_5 {X : sj_X} {M : sj_M} (C : sj_C X M) {S : sj_St} {cl sl : Nat} {t : List (Option Value)} {a0 a1 a2 a3 a4 b : Option Value} {pc : Nat} {rest : List Value} {x : Int32} (q : Nat) (hq : pc + 2 = q) (hd : decode M.2.1 pc = .ok (.istore 5, 2)) (hn : Nat.ble 6 M.2.2.1 = true) (hok : sj_okb (a0 :: a1 :: a2 :: a3 :: a4 :: b :: t) 5 = true) (kk : sj_G X S cl sl (a0 :: a1 :: a2 :: a3 :: a4 :: some (.int x) :: t) q rest) : sj_G X S cl sl (a0 :: a1 :: a2 :: a3 :: a4 :: b :: t) pc (.int x :: rest) := sj_istore0 (i := 5) C q hq hd hn hok kk
theorem sj_istore_6 {X : sj_X} {M : sj_M} (C : sj_C X M) {S : sj_St} {cl sl : Nat} {t : List (Option Value)} {a0 a1 a2 a3 a4 a5 b : Option Value} {pc : Nat} {rest : List Value} {x : Int32} (q : Nat) (hq : pc + 2 = q) (hd : decode M.2.1 pc = .ok (.istore 6, 2)) (hn : Nat.ble 7 M.2.2.1 = true) (hok : sj_okb (a0 :: a1 :: a2 :: a3 :: a4 :: a5 :: b :: t) 6 = true) (kk : sj_G X S cl sl (a0 :: a1 :: a2 :: a3 :: a4 :: a5 :: some (.int x) :: t) q rest) : sj_G X S cl sl (a0 :: a1 :: a2 :: a3 :: a4 :: a5 :: b :: t) pc (.int x :: rest) := sj_istore0 (i := 6) C q hq hd hn hok kk
theorem sj_istore_7 {X : sj_X} {M : sj_M} (C : sj_C X M) {S : sj_St} {cl sl : Nat} {t : List (Option Value)} {a0 a1 a2 a3 a4 a5 a6 b : Option Value} {pc : Nat} {rest : List Value} {x : Int32} (q : Nat) (hq : pc + 2 = q) (hd : decode M.2.1 pc = .ok (.istore 7, 2)) (hn : Nat.ble 8 M.2.2.1 = true) (hok : sj_okb (a0 :: a1 :: a2 :: a3 :: a4 :: a5 :: a6 :: b :: t) 7 = true) (kk : sj_G X S cl sl (a0 :: a1 :: a2 :: a3 :: a4 :: a5 :: a6 :: some (.int x) :: t) q rest) : sj_G X S cl sl (a0 :: a1 :: a2 :: a3 :: a4 :: a5 :: a6 :: b :: t) pc (.int x :: rest) := sj_istore0 (i := 7) C q hq hd hn hok kk
theorem sj_istore_8 {X : sj_X} {M : sj_M} (C : sj_C X M) {S : sj_St} {cl sl : Nat} {t : List (Option Value)} {a0 a1 a2 a3 a4 a5 a6 a7 b : Option Value} {pc : Nat} {rest : List Value} {x : Int32} (q : Nat) (hq : pc + 2 = q) (hd : decode M.2.1 pc = .ok (.istore 8, 2)) (hn : Nat.ble 9 M.2.2.1 = true) (hok : sj_okb (a0 :: a1 :: a2 :: a3 :: a4 :: a5 :: a6 :: a7 :: b :: t) 8 = true) (kk : sj_G X S cl sl (a0 :: a1 :: a2 :: a3 :: a4 :: a5 :: a6 :: a7 :: some (.int x) :: t) q rest) : sj_G X S cl sl (a0 :: a1 :: a2 :: a3 :: a4 :: a5 :: a6 :: a7 :: b :: t) pc (.int x :: rest) := sj_istore0 (i := 8) C q hq hd hn hok kk
theorem sj_istore_9 {X : sj_X} {M : sj_M} (C : sj_C X M) {S : sj_St} {cl sl : Nat} {t : List (Option Value)} {a0 a1 a2 a3 a4 a5 a6 a7 a8 b : Option Value} {pc : Nat} {rest : List Value} {x : Int32} (q : Nat) (hq : pc + 2 = q) (hd : decode M.2.1 pc = .ok (.istore 9, 2)) (hn : Nat.ble 10 M.2.2.1 = true) (hok : sj_okb (a0 :: a1 :: a2 :: a3 :: a4 :: a5 :: a6 :: a7 :: a8 :: b :: t) 9 = true) (kk : sj_G X S cl sl (a0 :: a1 :: a2 :: a3 :: a4 :: a5 :: a6 :: a7 :: a8 :: some (.int x) :: t) q rest) : sj_G X S cl sl (a0 :: a1 :: a2 :: a3 :: a4 :: a5 :: a6 :: a7 :: a8 :: b :: t) pc (.int x :: rest) := sj_istore0 (i := 9) C q hq hd hn hok kk
theorem sj_istore_10 {X : sj_X} {M : sj_M} (C : sj_C X M) {S : sj_St} {cl sl : Nat} {t : List (Option Value)} {a0 a1 a2 a3 a4 a5 a6 a7 a8 a9 b : Option Value} {pc : Nat} {rest : List Value} {x : Int32} (q : Nat) (hq : pc + 2 = q) (hd : decode M.2.1 pc = .ok (.istore 10, 2)) (hn : Nat.ble 11 M.2.2.1 = true) (hok : sj_okb (a0 :: a1 :: a2 :: a3 :: a4 :: a5 :: a6 :: a7 :: a8 :: a9 :: b :: t) 10 = true) (kk : sj_G X S cl sl (a0 :: a1 :: a2 :: a3 :: a4 :: a5 :: a6 :: a7 :: a8 :: a9 :: some (.int x) :: t) q rest) : sj_G X S cl sl (a0 :: a1 :: a2 :: a3 :: a4 :: a5 :: a6 :: a7 :: a8 :: a9 :: b :: t) pc (.int x :: rest) := sj_istore0 (i := 10) C q hq hd hn hok kk
theorem sj_istore_11 {X : sj_X} {M : sj_M} (C : sj_C X M) {S : sj_St} {cl sl : Nat} {t : List (Option Value)} {a0 a1 a2 a3 a4 a5 a6 a7 a8 a9 a10 b : Option Value} {pc : Nat} {rest : List Value} {x : Int32} (q : Nat) (hq : pc + 2 = q) (hd : decode M.2.1 pc = .ok (.istore 11, 2)) (hn : Nat.ble 12 M.2.2.1 = true) (hok : sj_okb (a0 :: a1 :: a2 :: a3 :: a4 :: a5 :: a6 :: a7 :: a8 :: a9 :: a10 :: b :: t) 11 = true) (kk : sj_G X S cl sl (a0 :: a1 :: a2 :: a3 :: a4 :: a5 :: a6 :: a7 :: a8 :: a9 :: a10 :: some (.int x) :: t) q rest) : sj_G X S cl sl (a0 :: a1 :: a2 :: a3 :: a4 :: a5 :: a6 :: a7 :: a8 :: a9 :: a10 :: b :: t) pc (.int x :: rest) := sj_istore0 (i := 11) C q hq hd hn hok kk
theorem sj_astore_n_0 {X : sj_X} {M : sj_M} (C : sj_C X M) {S : sj_St} {cl sl : Nat} {t : List (Option Value)} {b : Option Value} {pc : Nat} {rest : List Value} {x : Nat} (q : Nat) (hq : pc + 1 = q) (hd : decode M.2.1 pc = .ok (.astore_n 0, 1)) (hn : Nat.ble 1 M.2.2.1 = true) (hok : sj_okb (b :: t) 0 = true) (kk : sj_G X S cl sl (some (.ref x) :: t) q rest) : sj_G X S cl sl (b :: t) pc (.ref x :: rest) := sj_astore_n0 (i := 0) C q hq hd rfl hn hok kk
theorem sj_astore_0 {X : sj_X} {M : sj_M} (C : sj_C X M) {S : sj_St} {cl sl : Nat} {t : List (Option Value)} {b : Option Value} {pc : Nat} {rest : List Value} {x : Nat} (q : Nat) (hq : pc + 2 = q) (hd : decode M.2.1 pc = .ok (.astore 0, 2)) (hn : Nat.ble 1 M.2.2.1 = true) (hok : sj_okb (b :: t) 0 = true) (kk : sj_G X S cl sl (some (.ref x) :: t) q rest) : sj_G X S cl sl (b :: t) pc (.ref x :: rest) := sj_astore0 (i := 0) C q hq hd hn hok kk
theorem sj_astore_n_1 {X : sj_X} {M : sj_M} (C : sj_C X M) {S : sj_St} {cl sl : Nat} {t : List (Option Value)} {a0 b : Option Value} {pc : Nat} {rest : List Value} {x : Nat} (q : Nat) (hq : pc + 1 = q) (hd : decode M.2.1 pc = .ok (.astore_n 1, 1)) (hn : Nat.ble 2 M.2.2.1 = true) (hok : sj_okb (a0 :: b :: t) 1 = true) (kk : sj_G X S cl sl (a0 :: some (.ref x) :: t) q rest) : sj_G X S cl sl (a0 :: b :: t) pc (.ref x :: rest) := sj_astore_n0 (i := 1) C q hq hd rfl hn hok kk
theorem sj_astore_1 {X : sj_X} {M : sj_M} (C : sj_C X M) {S : sj_St} {cl sl : Nat} {t : List (Option Value)} {a0 b : Option Value} {pc : Nat} {rest : List Value} {x : Nat} (q : Nat) (hq : pc + 2 = q) (hd : decode M.2.1 pc = .ok (.astore 1, 2)) (hn : Nat.ble 2 M.2.2.1 = true) (hok : sj_okb (a0 :: b :: t) 1 = true) (kk : sj_G X S cl sl (a0 :: some (.ref x) :: t) q rest) : sj_G X S cl sl (a0 :: b :: t) pc (.ref x :: rest) := sj_astore0 (i := 1) C q hq hd hn hok kk
theorem sj_astore_n_2 {X : sj_X} {M : sj_M} (C : sj_C X M) {S : sj_St} {cl sl : Nat} {t : List (Option Value)} {a0 a1 b : Option Value} {pc : Nat} {rest : List Value} {x : Nat} (q : Nat) (hq : pc + 1 = q) (hd : decode M.2.1 pc = .ok (.astore_n 2, 1)) (hn : Nat.ble 3 M.2.2.1 = true) (hok : sj_okb (a0 :: a1 :: b :: t) 2 = true) (kk : sj_G X S cl sl (a0 :: a1 :: some (.ref x) :: t) q rest) : sj_G X S cl sl (a0 :: a1 :: b :: t) pc (.ref x :: rest) := sj_astore_n0 (i := 2) C q hq hd rfl hn hok kk
theorem sj_astore_2 {X : sj_X} {M : sj_M} (C : sj_C X M) {S : sj_St} {cl sl : Nat} {t : List (Option Value)} {a0 a1 b : Option Value} {pc : Nat} {rest : List Value} {x : Nat} (q : Nat) (hq : pc + 2 = q) (hd : decode M.2.1 pc = .ok (.astore 2, 2)) (hn : Nat.ble 3 M.2.2.1 = true) (hok : sj_okb (a0 :: a1 :: b :: t) 2 = true) (kk : sj_G X S cl sl (a0 :: a1 :: some (.ref x) :: t) q rest) : sj_G X S cl sl (a0 :: a1 :: b :: t) pc (.ref x :: rest) := sj_astore0 (i := 2) C q hq hd hn hok kk
theorem sj_astore_n_3 {X : sj_X} {M : sj_M} (C : sj_C X M) {S : sj_St} {cl sl : Nat} {t : List (Option Value)} {a0 a1 a2 b : Option Value} {pc : Nat} {rest : List Value} {x : Nat} (q : Nat) (hq : pc + 1 = q) (hd : decode M.2.1 pc = .ok (.astore_n 3, 1)) (hn : Nat.ble 4 M.2.2.1 = true) (hok : sj_okb (a0 :: a1 :: a2 :: b :: t) 3 = true) (kk : sj_G X S cl sl (a0 :: a1 :: a2 :: some (.ref x) :: t) q rest) : sj_G X S cl sl (a0 :: a1 :: a2 :: b :: t) pc (.ref x :: rest) := sj_astore_n0 (i := 3) C q hq hd rfl hn hok kk
theorem sj_astore_3 {X : sj_X} {M : sj_M} (C : sj_C X M) {S : sj_St} {cl sl : Nat} {t : List (Option Value)} {a0 a1 a2 b : Option Value} {pc : Nat} {rest : List Value} {x : Nat} (q : Nat) (hq : pc + 2 = q) (hd : decode M.2.1 pc = .ok (.astore 3, 2)) (hn : Nat.ble 4 M.2.2.1 = true) (hok : sj_okb (a0 :: a1 :: a2 :: b :: t) 3 = true) (kk : sj_G X S cl sl (a0 :: a1 :: a2 :: some (.ref x) :: t) q rest) : sj_G X S cl sl (a0 :: a1 :: a2 :: b :: t) pc (.ref x :: rest) := sj_astore0 (i := 3) C q hq hd hn hok kk
theorem sj_astore_4 {X : sj_X} {M : sj_M} (C : sj_C X M) {S : sj_St} {cl sl : Nat} {t : List (Option Value)} {a0 a1 a2 a3 b : Option Value} {pc : Nat} {rest : List Value} {x : Nat} (q : Nat) (hq : pc + 2 = q) (hd : decode M.2.1 pc = .ok (.astore 4, 2)) (hn : Nat.ble 5 M.2.2.1 = true) (hok : sj_okb (a0 :: a1 :: a2 :: a3 :: b :: t) 4 = true) (kk : sj_G X S cl sl (a0 :: a1 :: a2 :: a3 :: some (.ref x) :: t) q rest) : sj_G X S cl sl (a0 :: a1 :: a2 :: a3 :: b :: t) pc (.ref x :: rest) := sj_astore0 (i := 4) C q hq hd hn hok kk
theorem sj_astore_5 {X : sj_X} {M : sj_M} (C : sj_C X M) {S : sj_St} {cl sl : Nat} {t : List (Option Value)} {a0 a1 a2 a3 a4 b : Option Value} {pc : Nat} {rest : List Value} {x : Nat} (q : Nat) (hq : pc + 2 = q) (hd : decode M.2.1 pc = .ok (.astore 5, 2)) (hn : Nat.ble 6 M.2.2.1 = true) (hok : sj_okb (a0 :: a1 :: a2 :: a3 :: a4 :: b :: t) 5 = true) (kk : sj_G X S cl sl (a0 :: a1 :: a2 :: a3 :: a4 :: some (.ref x) :: t) q rest) : sj_G X S cl sl (a0 :: a1 :: a2 :: a3 :: a4 :: b :: t) pc (.ref x :: rest) := sj_astore0 (i := 5) C q hq hd hn hok kk
theorem sj_astore_6 {X : sj_X} {M : sj_M} (C : sj_C X M) {S : sj_St} {cl sl : Nat} {t : List (Option Value)} {a0 a1 a2 a3 a4 a5 b : Option Value} {pc : Nat} {rest : List Value} {x : Nat} (q : Nat) (hq : pc + 2 = q) (hd : decode M.2.1 pc = .ok (.astore 6, 2)) (hn : Nat.ble 7 M.2.2.1 = true) (hok : sj_okb (a0 :: a1 :: a2 :: a3 :: a4 :: a5 :: b :: t) 6 = true) (kk : sj_G X S cl sl (a0 :: a1 :: a2 :: a3 :: a4 :: a5 :: some (.ref x) :: t) q rest) : sj_G X S cl sl (a0 :: a1 :: a2 :: a3 :: a4 :: a5 :: b :: t) pc (.ref x :: rest) := sj_astore0 (i := 6) C q hq hd hn hok kk
theorem sj_astore_7 {X : sj_X} {M : sj_M} (C : sj_C X M) {S : sj_St} {cl sl : Nat} {t : List (Option Value)} {a0 a1 a2 a3 a4 a5 a6 b : Option Value} {pc : Nat} {rest : List Value} {x : Nat} (q : Nat) (hq : pc + 2 = q) (hd : decode M.2.1 pc = .ok (.astore 7, 2)) (hn : Nat.ble 8 M.2.2.1 = true) (hok : sj_okb (a0 :: a1 :: a2 :: a3 :: a4 :: a5 :: a6 :: b :: t) 7 = true) (kk : sj_G X S cl sl (a0 :: a1 :: a2 :: a3 :: a4 :: a5 :: a6 :: some (.ref x) :: t) q rest) : sj_G X S cl sl (a0 :: a1 :: a2 :: a3 :: a4 :: a5 :: a6 :: b :: t) pc (.ref x :: rest) := sj_astore0 (i := 7) C q hq hd hn hok kk
theorem sj_astore_8 {X : sj_X} {M : sj_M} (C : sj_C X M) {S : sj_St} {cl sl : Nat} {t : List (Option Value)} {a0 a1 a2 a3 a4 a5 a6 a7 b : Option Value} {pc : Nat} {rest : List Value} {x : Nat} (q : Nat) (hq : pc + 2 = q) (hd : decode M.2.1 pc = .ok (.astore 8, 2)) (hn : Nat.ble 9 M.2.2.1 = true) (hok : sj_okb (a0 :: a1 :: a2 :: a3 :: a4 :: a5 :: a6 :: a7 :: b :: t) 8 = true) (kk : sj_G X S cl sl (a0 :: a1 :: a2 :: a3 :: a4 :: a5 :: a6 :: a7 :: some (.ref x) :: t) q rest) : sj_G X S cl sl (a0 :: a1 :: a2 :: a3 :: a4 :: a5 :: a6 :: a7 :: b :: t) pc (.ref x :: rest) := sj_astore0 (i := 8) C q hq hd hn hok kk
theorem sj_astore_9 {X : sj_X} {M : sj_M} (C : sj_C X M) {S : sj_St} {cl sl : Nat} {t : List (Option Value)} {a0 a1 a2 a3 a4 a5 a6 a7 a8 b : Option Value} {pc : Nat} {rest : List Value} {x : Nat} (q : Nat) (hq : pc + 2 = q) (hd : decode M.2.1 pc = .ok (.astore 9, 2)) (hn : Nat.ble 10 M.2.2.1 = true) (hok : sj_okb (a0 :: a1 :: a2 :: a3 :: a4 :: a5 :: a6 :: a7 :: a8 :: b :: t) 9 = true) (kk : sj_G X S cl sl (a0 :: a1 :: a2 :: a3 :: a4 :: a5 :: a6 :: a7 :: a8 :: some (.ref x) :: t) q rest) : sj_G X S cl sl (a0 :: a1 :: a2 :: a3 :: a4 :: a5 :: a6 :: a7 :: a8 :: b :: t) pc (.ref x :: rest) := sj_astore0 (i := 9) C q hq hd hn hok kk
theorem sj_astore_10 {X : sj_X} {M : sj_M} (C : sj_C X M) {S : sj_St} {cl sl : Nat} {t : List (Option Value)} {a0 a1 a2 a3 a4 a5 a6 a7 a8 a9 b : Option Value} {pc : Nat} {rest : List Value} {x : Nat} (q : Nat) (hq : pc + 2 = q) (hd : decode M.2.1 pc = .ok (.astore 10, 2)) (hn : Nat.ble 11 M.2.2.1 = true) (hok : sj_okb (a0 :: a1 :: a2 :: a3 :: a4 :: a5 :: a6 :: a7 :: a8 :: a9 :: b :: t) 10 = true) (kk : sj_G X S cl sl (a0 :: a1 :: a2 :: a3 :: a4 :: a5 :: a6 :: a7 :: a8 :: a9 :: some (.ref x) :: t) q rest) : sj_G X S cl sl (a0 :: a1 :: a2 :: a3 :: a4 :: a5 :: a6 :: a7 :: a8 :: a9 :: b :: t) pc (.ref x :: rest) := sj_astore0 (i := 10) C q hq hd hn hok kk
theorem sj_astore_11 {X : sj_X} {M : sj_M} (C : sj_C X M) {S : sj_St} {cl sl : Nat} {t : List (Option Value)} {a0 a1 a2 a3 a4 a5 a6 a7 a8 a9 a10 b : Option Value} {pc : Nat} {rest : List Value} {x : Nat} (q : Nat) (hq : pc + 2 = q) (hd : decode M.2.1 pc = .ok (.astore 11, 2)) (hn : Nat.ble 12 M.2.2.1 = true) (hok : sj_okb (a0 :: a1 :: a2 :: a3 :: a4 :: a5 :: a6 :: a7 :: a8 :: a9 :: a10 :: b :: t) 11 = true) (kk : sj_G X S cl sl (a0 :: a1 :: a2 :: a3 :: a4 :: a5 :: a6 :: a7 :: a8 :: a9 :: a10 :: some (.ref x) :: t) q rest) : sj_G X S cl sl (a0 :: a1 :: a2 :: a3 :: a4 :: a5 :: a6 :: a7 :: a8 :: a9 :: a10 :: b :: t) pc (.ref x :: rest) := sj_astore0 (i := 11) C q hq hd hn hok kk
theorem sj_lstore_n_0 {X : sj_X} {M : sj_M} (C : sj_C X M) {S : sj_St} {cl sl : Nat} {t : List (Option Value)} {b b2 : Option Value} {pc : Nat} {rest : List Value} {x : Int64} (q : Nat) (hq : pc + 1 = q) (hd : decode M.2.1 pc = .ok (.lstore_n 0, 1)) (hn : Nat.ble 2 M.2.2.1 = true) (hok : sj_okb (b :: b2 :: t) 0 = true) (kk : sj_G X S cl sl (some (.long x) :: none :: t) q rest) : sj_G X S cl sl (b :: b2 :: t) pc (.long x :: rest) := sj_lstore_n0 (i := 0) C q hq hd rfl hn hok kk
theorem sj_lstore_0 {X : sj_X} {M : sj_M} (C : sj_C X M) {S : sj_St} {cl sl : Nat} {t : List (Option Value)} {b b2 : Option Value} {pc : Nat} {rest : List Value} {x : Int64} (q : Nat) (hq : pc + 2 = q) (hd : decode M.2.1 pc = .ok (.lstore 0, 2)) (hn : Nat.ble 2 M.2.2.1 = true) (hok : sj_okb (b :: b2 :: t) 0 = true) (kk : sj_G X S cl sl (some (.long x) :: none :: t) q rest) : sj_G X S cl sl (b :: b2 :: t) pc (.long x :: rest) := sj_lstore0 (i := 0) C q hq hd hn hok kk
theorem sj_lstore_n_1 {X : sj_X} {M : sj_M} (C : sj_C X M) {S : sj_St} {cl sl : Nat} {t : List (Option Value)} {a0 b b2 : Option Value} {pc : Nat} {rest : List Value} {x : Int64} (q : Nat) (hq : pc + 1 = q) (hd : decode M.2.1 pc = .ok (.lstore_n 1, 1)) (hn : Nat.ble 3 M.2.2.1 = true) (hok : sj_okb (a0 :: b :: b2 :: t) 1 = true) (kk : sj_G X S cl sl (a0 :: some (.long x) :: none :: t) q rest) : sj_G X S cl sl (a0 :: b :: b2 :: t) pc (.long x :: rest) := sj_lstore_n0 (i := 1) C q hq hd rfl hn hok kk
theorem sj_lstore_1 {X : sj_X} {M : sj_M} (C : sj_C X M) {S : sj_St} {cl sl : Nat} {t : List (Option Value)} {a0 b b2 : Option Value} {pc : Nat} {rest : List Value} {x : Int64} (q : Nat) (hq : pc + 2 = q) (hd : decode M.2.1 pc = .ok (.lstore 1, 2)) (hn : Nat.ble 3 M.2.2.1 = true) (hok : sj_okb (a0 :: b :: b2 :: t) 1 = true) (kk : sj_G X S cl sl (a0 :: some (.long x) :: none :: t) q rest) : sj_G X S cl sl (a0 :: b :: b2 :: t) pc (.long x :: rest) := sj_lstore0 (i := 1) C q hq hd hn hok kk
theorem sj_lstore_n_2 {X : sj_X} {M : sj_M} (C : sj_C X M) {S : sj_St} {cl sl : Nat} {t : List (Option Value)} {a0 a1 b b2 : Option Value} {pc : Nat} {rest : List Value} {x : Int64} (q : Nat) (hq : pc + 1 = q) (hd : decode M.2.1 pc = .ok (.lstore_n 2, 1)) (hn : Nat.ble 4 M.2.2.1 = true) (hok : sj_okb (a0 :: a1 :: b :: b2 :: t) 2 = true) (kk : sj_G X S cl sl (a0 :: a1 :: some (.long x) :: none :: t) q rest) : sj_G X S cl sl (a0 :: a1 :: b :: b2 :: t) pc (.long x :: rest) := sj_lstore_n0 (i := 2) C q hq hd rfl hn hok kk
theorem sj_lstore_2 {X : sj_X} {M : sj_M} (C : sj_C X M) {S : sj_St} {cl sl : Nat} {t : List (Option Value)} {a0 a1 b b2 : Option Value} {pc : Nat} {rest : List Value} {x : Int64} (q : Nat) (hq : pc + 2 = q) (hd : decode M.2.1 pc = .ok (.lstore 2, 2)) (hn : Nat.ble 4 M.2.2.1 = true) (hok : sj_okb (a0 :: a1 :: b :: b2 :: t) 2 = true) (kk : sj_G X S cl sl (a0 :: a1 :: some (.long x) :: none :: t) q rest) : sj_G X S cl sl (a0 :: a1 :: b :: b2 :: t) pc (.long x :: rest) := sj_lstore0 (i := 2) C q hq hd hn hok kk
theorem sj_lstore_n_3 {X : sj_X} {M : sj_M} (C : sj_C X M) {S : sj_St} {cl sl : Nat} {t : List (Option Value)} {a0 a1 a2 b b2 : Option Value} {pc : Nat} {rest : List Value} {x : Int64} (q : Nat) (hq : pc + 1 = q) (hd : decode M.2.1 pc = .ok (.lstore_n 3, 1)) (hn : Nat.ble 5 M.2.2.1 = true) (hok : sj_okb (a0 :: a1 :: a2 :: b :: b2 :: t) 3 = true) (kk : sj_G X S cl sl (a0 :: a1 :: a2 :: some (.long x) :: none :: t) q rest) : sj_G X S cl sl (a0 :: a1 :: a2 :: b :: b2 :: t) pc (.long x :: rest) := sj_lstore_n0 (i := 3) C q hq hd rfl hn hok kk
theorem sj_lstore_3 {X : sj_X} {M : sj_M} (C : sj_C X M) {S : sj_St} {cl sl : Nat} {t : List (Option Value)} {a0 a1 a2 b b2 : Option Value} {pc : Nat} {rest : List Value} {x : Int64} (q : Nat) (hq : pc + 2 = q) (hd : decode M.2.1 pc = .ok (.lstore 3, 2)) (hn : Nat.ble 5 M.2.2.1 = true) (hok : sj_okb (a0 :: a1 :: a2 :: b :: b2 :: t) 3 = true) (kk : sj_G X S cl sl (a0 :: a1 :: a2 :: some (.long x) :: none :: t) q rest) : sj_G X S cl sl (a0 :: a1 :: a2 :: b :: b2 :: t) pc (.long x :: rest) := sj_lstore0 (i := 3) C q hq hd hn hok kk
theorem sj_lstore_4 {X : sj_X} {M : sj_M} (C : sj_C X M) {S : sj_St} {cl sl : Nat} {t : List (Option Value)} {a0 a1 a2 a3 b b2 : Option Value} {pc : Nat} {rest : List Value} {x : Int64} (q : Nat) (hq : pc + 2 = q) (hd : decode M.2.1 pc = .ok (.lstore 4, 2)) (hn : Nat.ble 6 M.2.2.1 = true) (hok : sj_okb (a0 :: a1 :: a2 :: a3 :: b :: b2 :: t) 4 = true) (kk : sj_G X S cl sl (a0 :: a1 :: a2 :: a3 :: some (.long x) :: none :: t) q rest) : sj_G X S cl sl (a0 :: a1 :: a2 :: a3 :: b :: b2 :: t) pc (.long x :: rest) := sj_lstore0 (i := 4) C q hq hd hn hok kk
theorem sj_lstore_5 {X : sj_X} {M : sj_M} (C : sj_C X M) {S : sj_St} {cl sl : Nat} {t : List (Option Value)} {a0 a1 a2 a3 a4 b b2 : Option Value} {pc : Nat} {rest : List Value} {x : Int64} (q : Nat) (hq : pc + 2 = q) (hd : decode M.2.1 pc = .ok (.lstore 5, 2)) (hn : Nat.ble 7 M.2.2.1 = true) (hok : sj_okb (a0 :: a1 :: a2 :: a3 :: a4 :: b :: b2 :: t) 5 = true) (kk : sj_G X S cl sl (a0 :: a1 :: a2 :: a3 :: a4 :: some (.long x) :: none :: t) q rest) : sj_G X S cl sl (a0 :: a1 :: a2 :: a3 :: a4 :: b :: b2 :: t) pc (.long x :: rest) := sj_lstore0 (i := 5) C q hq hd hn hok kk
theorem sj_lstore_6 {X : sj_X} {M : sj_M} (C : sj_C X M) {S : sj_St} {cl sl : Nat} {t : List (Option Value)} {a0 a1 a2 a3 a4 a5 b b2 : Option Value} {pc : Nat} {rest : List Value} {x : Int64} (q : Nat) (hq : pc + 2 = q) (hd : decode M.2.1 pc = .ok (.lstore 6, 2)) (hn : Nat.ble 8 M.2.2.1 = true) (hok : sj_okb (a0 :: a1 :: a2 :: a3 :: a4 :: a5 :: b :: b2 :: t) 6 = true) (kk : sj_G X S cl sl (a0 :: a1 :: a2 :: a3 :: a4 :: a5 :: some (.long x) :: none :: t) q rest) : sj_G X S cl sl (a0 :: a1 :: a2 :: a3 :: a4 :: a5 :: b :: b2 :: t) pc (.long x :: rest) := sj_lstore0 (i := 6) C q hq hd hn hok kk
theorem sj_lstore_7 {X : sj_X} {M : sj_M} (C : sj_C X M) {S : sj_St} {cl sl : Nat} {t : List (Option Value)} {a0 a1 a2 a3 a4 a5 a6 b b2 : Option Value} {pc : Nat} {rest : List Value} {x : Int64} (q : Nat) (hq : pc + 2 = q) (hd : decode M.2.1 pc = .ok (.lstore 7, 2)) (hn : Nat.ble 9 M.2.2.1 = true) (hok : sj_okb (a0 :: a1 :: a2 :: a3 :: a4 :: a5 :: a6 :: b :: b2 :: t) 7 = true) (kk : sj_G X S cl sl (a0 :: a1 :: a2 :: a3 :: a4 :: a5 :: a6 :: some (.long x) :: none :: t) q rest) : sj_G X S cl sl (a0 :: a1 :: a2 :: a3 :: a4 :: a5 :: a6 :: b :: b2 :: t) pc (.long x :: rest) := sj_lstore0 (i := 7) C q hq hd hn hok kk
theorem sj_lstore_8 {X : sj_X} {M : sj_M} (C : sj_C X M) {S : sj_St} {cl sl : Nat} {t : List (Option Value)} {a0 a1 a2 a3 a4 a5 a6 a7 b b2 : Option Value} {pc : Nat} {rest : List Value} {x : Int64} (q : Nat) (hq : pc + 2 = q) (hd : decode M.2.1 pc = .ok (.lstore 8, 2)) (hn : Nat.ble 10 M.2.2.1 = true) (hok : sj_okb (a0 :: a1 :: a2 :: a3 :: a4 :: a5 :: a6 :: a7 :: b :: b2 :: t) 8 = true) (kk : sj_G X S cl sl (a0 :: a1 :: a2 :: a3 :: a4 :: a5 :: a6 :: a7 :: some (.long x) :: none :: t) q rest) : sj_G X S cl sl (a0 :: a1 :: a2 :: a3 :: a4 :: a5 :: a6 :: a7 :: b :: b2 :: t) pc (.long x :: rest) := sj_lstore0 (i := 8) C q hq hd hn hok kk
theorem sj_lstore_9 {X : sj_X} {M : sj_M} (C : sj_C X M) {S : sj_St} {cl sl : Nat} {t : List (Option Value)} {a0 a1 a2 a3 a4 a5 a6 a7 a8 b b2 : Option Value} {pc : Nat} {rest : List Value} {x : Int64} (q : Nat) (hq : pc + 2 = q) (hd : decode M.2.1 pc = .ok (.lstore 9, 2)) (hn : Nat.ble 11 M.2.2.1 = true) (hok : sj_okb (a0 :: a1 :: a2 :: a3 :: a4 :: a5 :: a6 :: a7 :: a8 :: b :: b2 :: t) 9 = true) (kk : sj_G X S cl sl (a0 :: a1 :: a2 :: a3 :: a4 :: a5 :: a6 :: a7 :: a8 :: some (.long x) :: none :: t) q rest) : sj_G X S cl sl (a0 :: a1 :: a2 :: a3 :: a4 :: a5 :: a6 :: a7 :: a8 :: b :: b2 :: t) pc (.long x :: rest) := sj_lstore0 (i := 9) C q hq hd hn hok kk
theorem sj_lstore_10 {X : sj_X} {M : sj_M} (C : sj_C X M) {S : sj_St} {cl sl : Nat} {t : List (Option Value)} {a0 a1 a2 a3 a4 a5 a6 a7 a8 a9 b b2 : Option Value} {pc : Nat} {rest : List Value} {x : Int64} (q : Nat) (hq : pc + 2 = q) (hd : decode M.2.1 pc = .ok (.lstore 10, 2)) (hn : Nat.ble 12 M.2.2.1 = true) (hok : sj_okb (a0 :: a1 :: a2 :: a3 :: a4 :: a5 :: a6 :: a7 :: a8 :: a9 :: b :: b2 :: t) 10 = true) (kk : sj_G X S cl sl (a0 :: a1 :: a2 :: a3 :: a4 :: a5 :: a6 :: a7 :: a8 :: a9 :: some (.long x) :: none :: t) q rest) : sj_G X S cl sl (a0 :: a1 :: a2 :: a3 :: a4 :: a5 :: a6 :: a7 :: a8 :: a9 :: b :: b2 :: t) pc (.long x :: rest) := sj_lstore0 (i := 10) C q hq hd hn hok kk
theorem sj_lstore_11 {X : sj_X} {M : sj_M} (C : sj_C X M) {S : sj_St} {cl sl : Nat} {t : List (Option Value)} {a0 a1 a2 a3 a4 a5 a6 a7 a8 a9 a10 b b2 : Option Value} {pc : Nat} {rest : List Value} {x : Int64} (q : Nat) (hq : pc + 2 = q) (hd : decode M.2.1 pc = .ok (.lstore 11, 2)) (hn : Nat.ble 13 M.2.2.1 = true) (hok : sj_okb (a0 :: a1 :: a2 :: a3 :: a4 :: a5 :: a6 :: a7 :: a8 :: a9 :: a10 :: b :: b2 :: t) 11 = true) (kk : sj_G X S cl sl (a0 :: a1 :: a2 :: a3 :: a4 :: a5 :: a6 :: a7 :: a8 :: a9 :: a10 :: some (.long x) :: none :: t) q rest) : sj_G X S cl sl (a0 :: a1 :: a2 :: a3 :: a4 :: a5 :: a6 :: a7 :: a8 :: a9 :: a10 :: b :: b2 :: t) pc (.long x :: rest) := sj_lstore0 (i := 11) C q hq hd hn hok kk
theorem sj_dstore_n_0 {X : sj_X} {M : sj_M} (C : sj_C X M) {S : sj_St} {cl sl : Nat} {t : List (Option Value)} {b b2 : Option Value} {pc : Nat} {rest : List Value} {x : UInt64} (q : Nat) (hq : pc + 1 = q) (hd : decode M.2.1 pc = .ok (.dstore_n 0, 1)) (hn : Nat.ble 2 M.2.2.1 = true) (hok : sj_okb (b :: b2 :: t) 0 = true) (kk : sj_G X S cl sl (some (.double x) :: none :: t) q rest) : sj_G X S cl sl (b :: b2 :: t) pc (.double x :: rest) := sj_dstore_n0 (i := 0) C q hq hd rfl hn hok kk
theorem sj_dstore_0 {X : sj_X} {M : sj_M} (C : sj_C X M) {S : sj_St} {cl sl : Nat} {t : List (Option Value)} {b b2 : Option Value} {pc : Nat} {rest : List Value} {x : UInt64} (q : Nat) (hq : pc + 2 = q) (hd : decode M.2.1 pc = .ok (.dstore 0, 2)) (hn : Nat.ble 2 M.2.2.1 = true) (hok : sj_okb (b :: b2 :: t) 0 = true) (kk : sj_G X S cl sl (some (.double x) :: none :: t) q rest) : sj_G X S cl sl (b :: b2 :: t) pc (.double x :: rest) := sj_dstore0 (i := 0) C q hq hd hn hok kk
theorem sj_dstore_n_1 {X : sj_X} {M : sj_M} (C : sj_C X M) {S : sj_St} {cl sl : Nat} {t : List (Option Value)} {a0 b b2 : Option Value} {pc : Nat} {rest : List Value} {x : UInt64} (q : Nat) (hq : pc + 1 = q) (hd : decode M.2.1 pc = .ok (.dstore_n 1, 1)) (hn : Nat.ble 3 M.2.2.1 = true) (hok : sj_okb (a0 :: b :: b2 :: t) 1 = true) (kk : sj_G X S cl sl (a0 :: some (.double x) :: none :: t) q rest) : sj_G X S cl sl (a0 :: b :: b2 :: t) pc (.double x :: rest) := sj_dstore_n0 (i := 1) C q hq hd rfl hn hok kk
theorem sj_dstore_1 {X : sj_X} {M : sj_M} (C : sj_C X M) {S : sj_St} {cl sl : Nat} {t : List (Option Value)} {a0 b b2 : Option Value} {pc : Nat} {rest : List Value} {x : UInt64} (q : Nat) (hq : pc + 2 = q) (hd : decode M.2.1 pc = .ok (.dstore 1, 2)) (hn : Nat.ble 3 M.2.2.1 = true) (hok : sj_okb (a0 :: b :: b2 :: t) 1 = true) (kk : sj_G X S cl sl (a0 :: some (.double x) :: none :: t) q rest) : sj_G X S cl sl (a0 :: b :: b2 :: t) pc (.double x :: rest) := sj_dstore0 (i := 1) C q hq hd hn hok kk
theorem sj_dstore_n_2 {X : sj_X} {M : sj_M} (C : sj_C X M) {S : sj_St} {cl sl : Nat} {t : List (Option Value)} {a0 a1 b b2 : Option Value} {pc : Nat} {rest : List Value} {x : UInt64} (q : Nat) (hq : pc + 1 = q) (hd : decode M.2.1 pc = .ok (.dstore_n 2, 1)) (hn : Nat.ble 4 M.2.2.1 = true) (hok : sj_okb (a0 :: a1 :: b :: b2 :: t) 2 = true) (kk : sj_G X S cl sl (a0 :: a1 :: some (.double x) :: none :: t) q rest) : sj_G X S cl sl (a0 :: a1 :: b :: b2 :: t) pc (.double x :: rest) := sj_dstore_n0 (i := 2) C q hq hd rfl hn hok kk
theorem sj_dstore_2 {X : sj_X} {M : sj_M} (C : sj_C X M) {S : sj_St} {cl sl : Nat} {t : List (Option Value)} {a0 a1 b b2 : Option Value} {pc : Nat} {rest : List Value} {x : UInt64} (q : Nat) (hq : pc + 2 = q) (hd : decode M.2.1 pc = .ok (.dstore 2, 2)) (hn : Nat.ble 4 M.2.2.1 = true) (hok : sj_okb (a0 :: a1 :: b :: b2 :: t) 2 = true) (kk : sj_G X S cl sl (a0 :: a1 :: some (.double x) :: none :: t) q rest) : sj_G X S cl sl (a0 :: a1 :: b :: b2 :: t) pc (.double x :: rest) := sj_dstore0 (i := 2) C q hq hd hn hok kk
theorem sj_dstore_n_3 {X : sj_X} {M : sj_M} (C : sj_C X M) {S : sj_St} {cl sl : Nat} {t : List (Option Value)} {a0 a1 a2 b b2 : Option Value} {pc : Nat} {rest : List Value} {x : UInt64} (q : Nat) (hq : pc + 1 = q) (hd : decode M.2.1 pc = .ok (.dstore_n 3, 1)) (hn : Nat.ble 5 M.2.2.1 = true) (hok : sj_okb (a0 :: a1 :: a2 :: b :: b2 :: t) 3 = true) (kk : sj_G X S cl sl (a0 :: a1 :: a2 :: some (.double x) :: none :: t) q rest) : sj_G X S cl sl (a0 :: a1 :: a2 :: b :: b2 :: t) pc (.double x :: rest) := sj_dstore_n0 (i := 3) C q hq hd rfl hn hok kk
theorem sj_dstore_3 {X : sj_X} {M : sj_M} (C : sj_C X M) {S : sj_St} {cl sl : Nat} {t : List (Option Value)} {a0 a1 a2 b b2 : Option Value} {pc : Nat} {rest : List Value} {x : UInt64} (q : Nat) (hq : pc + 2 = q) (hd : decode M.2.1 pc = .ok (.dstore 3, 2)) (hn : Nat.ble 5 M.2.2.1 = true) (hok : sj_okb (a0 :: a1 :: a2 :: b :: b2 :: t) 3 = true) (kk : sj_G X S cl sl (a0 :: a1 :: a2 :: some (.double x) :: none :: t) q rest) : sj_G X S cl sl (a0 :: a1 :: a2 :: b :: b2 :: t) pc (.double x :: rest) := sj_dstore0 (i := 3) C q hq hd hn hok kk
theorem sj_dstore_4 {X : sj_X} {M : sj_M} (C : sj_C X M) {S : sj_St} {cl sl : Nat} {t : List (Option Value)} {a0 a1 a2 a3 b b2 : Option Value} {pc : Nat} {rest : List Value} {x : UInt64} (q : Nat) (hq : pc + 2 = q) (hd : decode M.2.1 pc = .ok (.dstore 4, 2)) (hn : Nat.ble 6 M.2.2.1 = true) (hok : sj_okb (a0 :: a1 :: a2 :: a3 :: b :: b2 :: t) 4 = true) (kk : sj_G X S cl sl (a0 :: a1 :: a2 :: a3 :: some (.double x) :: none :: t) q rest) : sj_G X S cl sl (a0 :: a1 :: a2 :: a3 :: b :: b2 :: t) pc (.double x :: rest) := sj_dstore0 (i := 4) C q hq hd hn hok kk
theorem sj_dstore_5 {X : sj_X} {M : sj_M} (C : sj_C X M) {S : sj_St} {cl sl : Nat} {t : List (Option Value)} {a0 a1 a2 a3 a4 b b2 : Option Value} {pc : Nat} {rest : List Value} {x : UInt64} (q : Nat) (hq : pc + 2 = q) (hd : decode M.2.1 pc = .ok (.dstore 5, 2)) (hn : Nat.ble 7 M.2.2.1 = true) (hok : sj_okb (a0 :: a1 :: a2 :: a3 :: a4 :: b :: b2 :: t) 5 = true) (kk : sj_G X S cl sl (a0 :: a1 :: a2 :: a3 :: a4 :: some (.double x) :: none :: t) q rest) : sj_G X S cl sl (a0 :: a1 :: a2 :: a3 :: a4 :: b :: b2 :: t) pc (.double x :: rest) := sj_dstore0 (i := 5) C q hq hd hn hok kk
theorem sj_dstore_6 {X : sj_X} {M : sj_M} (C : sj_C X M) {S : sj_St} {cl sl : Nat} {t : List (Option Value)} {a0 a1 a2 a3 a4 a5 b b2 : Option Value} {pc : Nat} {rest : List Value} {x : UInt64} (q : Nat) (hq : pc + 2 = q) (hd : decode M.2.1 pc = .ok (.dstore 6, 2)) (hn : Nat.ble 8 M.2.2.1 = true) (hok : sj_okb (a0 :: a1 :: a2 :: a3 :: a4 :: a5 :: b :: b2 :: t) 6 = true) (kk : sj_G X S cl sl (a0 :: a1 :: a2 :: a3 :: a4 :: a5 :: some (.double x) :: none :: t) q rest) : sj_G X S cl sl (a0 :: a1 :: a2 :: a3 :: a4 :: a5 :: b :: b2 :: t) pc (.double x :: rest) := sj_dstore0 (i := 6) C q hq hd hn hok kk
theorem sj_dstore_7 {X : sj_X} {M : sj_M} (C : sj_C X M) {S : sj_St} {cl sl : Nat} {t : List (Option Value)} {a0 a1 a2 a3 a4 a5 a6 b b2 : Option Value} {pc : Nat} {rest : List Value} {x : UInt64} (q : Nat) (hq : pc + 2 = q) (hd : decode M.2.1 pc = .ok (.dstore 7, 2)) (hn : Nat.ble 9 M.2.2.1 = true) (hok : sj_okb (a0 :: a1 :: a2 :: a3 :: a4 :: a5 :: a6 :: b :: b2 :: t) 7 = true) (kk : sj_G X S cl sl (a0 :: a1 :: a2 :: a3 :: a4 :: a5 :: a6 :: some (.double x) :: none :: t) q rest) : sj_G X S cl sl (a0 :: a1 :: a2 :: a3 :: a4 :: a5 :: a6 :: b :: b2 :: t) pc (.double x :: rest) := sj_dstore0 (i := 7) C q hq hd hn hok kk
theorem sj_dstore_8 {X : sj_X} {M : sj_M} (C : sj_C X M) {S : sj_St} {cl sl : Nat} {t : List (Option Value)} {a0 a1 a2 a3 a4 a5 a6 a7 b b2 : Option Value} {pc : Nat} {rest : List Value} {x : UInt64} (q : Nat) (hq : pc + 2 = q) (hd : decode M.2.1 pc = .ok (.dstore 8, 2)) (hn : Nat.ble 10 M.2.2.1 = true) (hok : sj_okb (a0 :: a1 :: a2 :: a3 :: a4 :: a5 :: a6 :: a7 :: b :: b2 :: t) 8 = true) (kk : sj_G X S cl sl (a0 :: a1 :: a2 :: a3 :: a4 :: a5 :: a6 :: a7 :: some (.double x) :: none :: t) q rest) : sj_G X S cl sl (a0 :: a1 :: a2 :: a3 :: a4 :: a5 :: a6 :: a7 :: b :: b2 :: t) pc (.double x :: rest) := sj_dstore0 (i := 8) C q hq hd hn hok kk
theorem sj_dstore_9 {X : sj_X} {M : sj_M} (C : sj_C X M) {S : sj_St} {cl sl : Nat} {t : List (Option Value)} {a0 a1 a2 a3 a4 a5 a6 a7 a8 b b2 : Option Value} {pc : Nat} {rest : List Value} {x : UInt64} (q : Nat) (hq : pc + 2 = q) (hd : decode M.2.1 pc = .ok (.dstore 9, 2)) (hn : Nat.ble 11 M.2.2.1 = true) (hok : sj_okb (a0 :: a1 :: a2 :: a3 :: a4 :: a5 :: a6 :: a7 :: a8 :: b :: b2 :: t) 9 = true) (kk : sj_G X S cl sl (a0 :: a1 :: a2 :: a3 :: a4 :: a5 :: a6 :: a7 :: a8 :: some (.double x) :: none :: t) q rest) : sj_G X S cl sl (a0 :: a1 :: a2 :: a3 :: a4 :: a5 :: a6 :: a7 :: a8 :: b :: b2 :: t) pc (.double x :: rest) := sj_dstore0 (i := 9) C q hq hd hn hok kk
theorem sj_dstore_10 {X : sj_X} {M : sj_M} (C : sj_C X M) {S : sj_St} {cl sl : Nat} {t : List (Option Value)} {a0 a1 a2 a3 a4 a5 a6 a7 a8 a9 b b2 : Option Value} {pc : Nat} {rest : List Value} {x : UInt64} (q : Nat) (hq : pc + 2 = q) (hd : decode M.2.1 pc = .ok (.dstore 10, 2)) (hn : Nat.ble 12 M.2.2.1 = true) (hok : sj_okb (a0 :: a1 :: a2 :: a3 :: a4 :: a5 :: a6 :: a7 :: a8 :: a9 :: b :: b2 :: t) 10 = true) (kk : sj_G X S cl sl (a0 :: a1 :: a2 :: a3 :: a4 :: a5 :: a6 :: a7 :: a8 :: a9 :: some (.double x) :: none :: t) q rest) : sj_G X S cl sl (a0 :: a1 :: a2 :: a3 :: a4 :: a5 :: a6 :: a7 :: a8 :: a9 :: b :: b2 :: t) pc (.double x :: rest) := sj_dstore0 (i := 10) C q hq hd hn hok kk
theorem sj_dstore_11 {X : sj_X} {M : sj_M} (C : sj_C X M) {S : sj_St} {cl sl : Nat} {t : List (Option Value)} {a0 a1 a2 a3 a4 a5 a6 a7 a8 a9 a10 b b2 : Option Value} {pc : Nat} {rest : List Value} {x : UInt64} (q : Nat) (hq : pc + 2 = q) (hd : decode M.2.1 pc = .ok (.dstore 11, 2)) (hn : Nat.ble 13 M.2.2.1 = true) (hok : sj_okb (a0 :: a1 :: a2 :: a3 :: a4 :: a5 :: a6 :: a7 :: a8 :: a9 :: a10 :: b :: b2 :: t) 11 = true) (kk : sj_G X S cl sl (a0 :: a1 :: a2 :: a3 :: a4 :: a5 :: a6 :: a7 :: a8 :: a9 :: a10 :: some (.double x) :: none :: t) q rest) : sj_G X S cl sl (a0 :: a1 :: a2 :: a3 :: a4 :: a5 :: a6 :: a7 :: a8 :: a9 :: a10 :: b :: b2 :: t) pc (.double x :: rest) := sj_dstore0 (i := 11) C q hq hd hn hok kk
theorem sj_iinc_0 {X : sj_X} {M : sj_M} (C : sj_C X M) {S : sj_St} {cl sl : Nat} {t : List (Option Value)} {pc : Nat} {rest : List Value} {n : Int} {x : Int32} (q : Nat) (hq : pc + 3 = q) (hd : decode M.2.1 pc = .ok (.iinc 0 n, 3)) (hn : Nat.ble 1 M.2.2.1 = true) (hok : sj_okb (some (.int x) :: t) 0 = true) (kk : sj_G X S cl sl (some (.int (x + Int32.ofInt n)) :: t) q rest) : sj_G X S cl sl (some (.int x) :: t) pc rest := sj_iinc0 (i := 0) C q hq hd hn hok rfl kk
theorem sj_iinc_1 {X : sj_X} {M : sj_M} (C : sj_C X M) {S : sj_St} {cl sl : Nat} {t : List (Option Value)} {a0 : Option Value} {pc : Nat} {rest : List Value} {n : Int} {x : Int32} (q : Nat) (hq : pc + 3 = q) (hd : decode M.2.1 pc = .ok (.iinc 1 n, 3)) (hn : Nat.ble 2 M.2.2.1 = true) (hok : sj_okb (a0 :: some (.int x) :: t) 1 = true) (kk : sj_G X S cl sl (a0 :: some (.int (x + Int32.ofInt n)) :: t) q rest) : sj_G X S cl sl (a0 :: some (.int x) :: t) pc rest := sj_iinc0 (i := 1) C q hq hd hn hok rfl kk
theorem sj_iinc_2 {X : sj_X} {M : sj_M} (C : sj_C X M) {S : sj_St} {cl sl : Nat} {t : List (Option Value)} {a0 a1 : Option Value} {pc : Nat} {rest : List Value} {n : Int} {x : Int32} (q : Nat) (hq : pc + 3 = q) (hd : decode M.2.1 pc = .ok (.iinc 2 n, 3)) (hn : Nat.ble 3 M.2.2.1 = true) (hok : sj_okb (a0 :: a1 :: some (.int x) :: t) 2 = true) (kk : sj_G X S cl sl (a0 :: a1 :: some (.int (x + Int32.ofInt n)) :: t) q rest) : sj_G X S cl sl (a0 :: a1 :: some (.int x) :: t) pc rest := sj_iinc0 (i := 2) C q hq hd hn hok rfl kk
theorem sj_iinc_3 {X : sj_X} {M : sj_M} (C : sj_C X M) {S : sj_St} {cl sl : Nat} {t : List (Option Value)} {a0 a1 a2 : Option Value} {pc : Nat} {rest : List Value} {n : Int} {x : Int32} (q : Nat) (hq : pc + 3 = q) (hd : decode M.2.1 pc = .ok (.iinc 3 n, 3)) (hn : Nat.ble 4 M.2.2.1 = true) (hok : sj_okb (a0 :: a1 :: a2 :: some (.int x) :: t) 3 = true) (kk : sj_G X S cl sl (a0 :: a1 :: a2 :: some (.int (x + Int32.ofInt n)) :: t) q rest) : sj_G X S cl sl (a0 :: a1 :: a2 :: some (.int x) :: t) pc rest := sj_iinc0 (i := 3) C q hq hd hn hok rfl kk
theorem sj_iinc_4 {X : sj_X} {M : sj_M} (C : sj_C X M) {S : sj_St} {cl sl : Nat} {t : List (Option Value)} {a0 a1 a2 a3 : Option Value} {pc : Nat} {rest : List Value} {n : Int} {x : Int32} (q : Nat) (hq : pc + 3 = q) (hd : decode M.2.1 pc = .ok (.iinc 4 n, 3)) (hn : Nat.ble 5 M.2.2.1 = true) (hok : sj_okb (a0 :: a1 :: a2 :: a3 :: some (.int x) :: t) 4 = true) (kk : sj_G X S cl sl (a0 :: a1 :: a2 :: a3 :: some (.int (x + Int32.ofInt n)) :: t) q rest) : sj_G X S cl sl (a0 :: a1 :: a2 :: a3 :: some (.int x) :: t) pc rest := sj_iinc0 (i := 4) C q hq hd hn hok rfl kk
theorem sj_iinc_5 {X : sj_X} {M : sj_M} (C : sj_C X M) {S : sj_St} {cl sl : Nat} {t : List (Option Value)} {a0 a1 a2 a3 a4 : Option Value} {pc : Nat} {rest : List Value} {n : Int} {x : Int32} (q : Nat) (hq : pc + 3 = q) (hd : decode M.2.1 pc = .ok (.iinc 5 n, 3)) (hn : Nat.ble 6 M.2.2.1 = true) (hok : sj_okb (a0 :: a1 :: a2 :: a3 :: a4 :: some (.int x) :: t) 5 = true) (kk : sj_G X S cl sl (a0 :: a1 :: a2 :: a3 :: a4 :: some (.int (x + Int32.ofInt n)) :: t) q rest) : sj_G X S cl sl (a0 :: a1 :: a2 :: a3 :: a4 :: some (.int x) :: t) pc rest := sj_iinc0 (i := 5) C q hq hd hn hok rfl kk
theorem sj_iinc_6 {X : sj_X} {M : sj_M} (C : sj_C X M) {S : sj_St} {cl sl : Nat} {t : List (Option Value)} {a0 a1 a2 a3 a4 a5 : Option Value} {pc : Nat} {rest : List Value} {n : Int} {x : Int32} (q : Nat) (hq : pc + 3 = q) (hd : decode M.2.1 pc = .ok (.iinc 6 n, 3)) (hn : Nat.ble 7 M.2.2.1 = true) (hok : sj_okb (a0 :: a1 :: a2 :: a3 :: a4 :: a5 :: some (.int x) :: t) 6 = true) (kk : sj_G X S cl sl (a0 :: a1 :: a2 :: a3 :: a4 :: a5 :: some (.int (x + Int32.ofInt n)) :: t) q rest) : sj_G X S cl sl (a0 :: a1 :: a2 :: a3 :: a4 :: a5 :: some (.int x) :: t) pc rest := sj_iinc0 (i := 6) C q hq hd hn hok rfl kk
theorem sj_iinc_7 {X : sj_X} {M : sj_M} (C : sj_C X M) {S : sj_St} {cl sl : Nat} {t : List (Option Value)} {a0 a1 a2 a3 a4 a5 a6 : Option Value} {pc : Nat} {rest : List Value} {n : Int} {x : Int32} (q : Nat) (hq : pc + 3 = q) (hd : decode M.2.1 pc = .ok (.iinc 7 n, 3)) (hn : Nat.ble 8 M.2.2.1 = true) (hok : sj_okb (a0 :: a1 :: a2 :: a3 :: a4 :: a5 :: a6 :: some (.int x) :: t) 7 = true) (kk : sj_G X S cl sl (a0 :: a1 :: a2 :: a3 :: a4 :: a5 :: a6 :: some (.int (x + Int32.ofInt n)) :: t) q rest) : sj_G X S cl sl (a0 :: a1 :: a2 :: a3 :: a4 :: a5 :: a6 :: some (.int x) :: t) pc rest := sj_iinc0 (i := 7) C q hq hd hn hok rfl kk
theorem sj_iinc_8 {X : sj_X} {M : sj_M} (C : sj_C X M) {S : sj_St} {cl sl : Nat} {t : List (Option Value)} {a0 a1 a2 a3 a4 a5 a6 a7 : Option Value} {pc : Nat} {rest : List Value} {n : Int} {x : Int32} (q : Nat) (hq : pc + 3 = q) (hd : decode M.2.1 pc = .ok (.iinc 8 n, 3)) (hn : Nat.ble 9 M.2.2.1 = true) (hok : sj_okb (a0 :: a1 :: a2 :: a3 :: a4 :: a5 :: a6 :: a7 :: some (.int x) :: t) 8 = true) (kk : sj_G X S cl sl (a0 :: a1 :: a2 :: a3 :: a4 :: a5 :: a6 :: a7 :: some (.int (x + Int32.ofInt n)) :: t) q rest) : sj_G X S cl sl (a0 :: a1 :: a2 :: a3 :: a4 :: a5 :: a6 :: a7 :: some (.int x) :: t) pc rest := sj_iinc0 (i := 8) C q hq hd hn hok rfl kk
theorem sj_iinc_9 {X : sj_X} {M : sj_M} (C : sj_C X M) {S : sj_St} {cl sl : Nat} {t : List (Option Value)} {a0 a1 a2 a3 a4 a5 a6 a7 a8 : Option Value} {pc : Nat} {rest : List Value} {n : Int} {x : Int32} (q : Nat) (hq : pc + 3 = q) (hd : decode M.2.1 pc = .ok (.iinc 9 n, 3)) (hn : Nat.ble 10 M.2.2.1 = true) (hok : sj_okb (a0 :: a1 :: a2 :: a3 :: a4 :: a5 :: a6 :: a7 :: a8 :: some (.int x) :: t) 9 = true) (kk : sj_G X S cl sl (a0 :: a1 :: a2 :: a3 :: a4 :: a5 :: a6 :: a7 :: a8 :: some (.int (x + Int32.ofInt n)) :: t) q rest) : sj_G X S cl sl (a0 :: a1 :: a2 :: a3 :: a4 :: a5 :: a6 :: a7 :: a8 :: some (.int x) :: t) pc rest := sj_iinc0 (i := 9) C q hq hd hn hok rfl kk
theorem sj_iinc_10 {X : sj_X} {M : sj_M} (C : sj_C X M) {S : sj_St} {cl sl : Nat} {t : List (Option Value)} {a0 a1 a2 a3 a4 a5 a6 a7 a8 a9 : Option Value} {pc : Nat} {rest : List Value} {n : Int} {x : Int32} (q : Nat) (hq : pc + 3 = q) (hd : decode M.2.1 pc = .ok (.iinc 10 n, 3)) (hn : Nat.ble 11 M.2.2.1 = true) (hok : sj_okb (a0 :: a1 :: a2 :: a3 :: a4 :: a5 :: a6 :: a7 :: a8 :: a9 :: some (.int x) :: t) 10 = true) (kk : sj_G X S cl sl (a0 :: a1 :: a2 :: a3 :: a4 :: a5 :: a6 :: a7 :: a8 :: a9 :: some (.int (x + Int32.ofInt n)) :: t) q rest) : sj_G X S cl sl (a0 :: a1 :: a2 :: a3 :: a4 :: a5 :: a6 :: a7 :: a8 :: a9 :: some (.int x) :: t) pc rest := sj_iinc0 (i := 10) C q hq hd hn hok rfl kk
theorem sj_iinc_11 {X : sj_X} {M : sj_M} (C : sj_C X M) {S : sj_St} {cl sl : Nat} {t : List (Option Value)} {a0 a1 a2 a3 a4 a5 a6 a7 a8 a9 a10 : Option Value} {pc : Nat} {rest : List Value} {n : Int} {x : Int32} (q : Nat) (hq : pc + 3 = q) (hd : decode M.2.1 pc = .ok (.iinc 11 n, 3)) (hn : Nat.ble 12 M.2.2.1 = true) (hok : sj_okb (a0 :: a1 :: a2 :: a3 :: a4 :: a5 :: a6 :: a7 :: a8 :: a9 :: a10 :: some (.int x) :: t) 11 = true) (kk : sj_G X S cl sl (a0 :: a1 :: a2 :: a3 :: a4 :: a5 :: a6 :: a7 :: a8 :: a9 :: a10 :: some (.int (x + Int32.ofInt n)) :: t) q rest) : sj_G X S cl sl (a0 :: a1 :: a2 :: a3 :: a4 :: a5 :: a6 :: a7 :: a8 :: a9 :: a10 :: some (.int x) :: t) pc rest := sj_iinc0 (i := 11) C q hq hd hn hok rfl kk
theorem sj_icmp_eq {X : sj_X} {M : sj_M} (C : sj_C X M) {S : sj_St} {cl sl : Nat} {L : List (Option Value)} {pc : Nat} {rest : List Value} {x y : Int32} {off : Int} (tgt q : Nat) (hq : pc + 3 = q) (ht : (pc : Int) + off = (tgt : Int)) (hd : decode M.2.1 pc = .ok (.if_icmp .eq off, 3)) (kt : x = y → sj_G X S cl sl L tgt rest) (kf : ¬ x = y → sj_G X S cl sl L q rest) : sj_G X S cl sl L pc (.int y :: .int x :: rest) := by
  obtain ⟨p, l, e, R, s, m, args, below, meth, c, D, cy, A, nL, Q⟩ := X
  obtain ⟨ym, cc, nL0, ret, fr, lo, mc, ms⟩ := M
  obtain ⟨hx, hb, ⟨hml, hnL⟩, hown, hts, ⟨hlk, hret, hnm⟩, hK, hAm, hA, hRR⟩ := C
  subst hq
  intro H locs ls h1 h2 h3
  exact lv_icmp_eq hx hb hd ht (fun h => kt h H locs ls h1 h2 h3) (fun h => kf h H locs ls h1 h2 h3)
theorem sj_icmp_ne {X : sj_X} {M : sj_M} (C : sj_C X M) {S : sj_St} {cl sl : Nat} {L : List (Option Value)} {pc : Nat} {rest : List Value} {x y : Int32} {off : Int} (tgt q : Nat) (hq : pc + 3 = q) (ht : (pc : Int) + off = (tgt : Int)) (hd : decode M.2.1 pc = .ok (.if_icmp .ne off, 3)) (kt : ¬ x = y → sj_G X S cl sl L tgt rest) (kf : x = y → sj_G X S cl sl L q rest) : sj_G X S cl sl L pc (.int y :: .int x :: rest) := by
  obtain ⟨p, l, e, R, s, m, args, below, meth, c, D, cy, A, nL, Q⟩ := X
  obtain ⟨ym, cc, nL0, ret, fr, lo, mc, ms⟩ := M
  obtain ⟨hx, hb, ⟨hml, hnL⟩, hown, hts, ⟨hlk, hret, hnm⟩, hK, hAm, hA, hRR⟩ := C
  subst hq
  intro H locs ls h1 h2 h3
  exact lv_icmp_ne hx hb hd ht (fun h => kt h H locs ls h1 h2 h3) (fun h => kf h H locs ls h1 h2 h3)
theorem sj_icmp_lt {X : sj_X} {M : sj_M} (C : sj_C X M) {S : sj_St} {cl sl : Nat} {L : List (Option Value)} {pc : Nat} {rest : List Value} {x y : Int32} {off : Int} (tgt q : Nat) (hq : pc + 3 = q) (ht : (pc : Int) + off = (tgt : Int)) (hd : decode M.2.1 pc = .ok (.if_icmp .lt off, 3)) (kt : x < y → sj_G X S cl sl L tgt rest) (kf : ¬ x < y → sj_G X S cl sl L q rest) : sj_G X S cl sl L pc (.int y :: .int x :: rest) := by
  obtain ⟨p, l, e, R, s, m, args, below, meth, c, D, cy, A, nL, Q⟩ := X
  obtain ⟨ym, cc, nL0, ret, fr, lo, mc, ms⟩ := M
  obtain ⟨hx, hb, ⟨hml, hnL⟩, hown, hts, ⟨hlk, hret, hnm⟩, hK, hAm, hA, hRR⟩ := C
  subst hq
  intro H locs ls h1 h2 h3
  exact lv_icmp_lt hx hb hd ht (fun h => kt h H locs ls h1 h2 h3) (fun h => kf h H locs ls h1 h2 h3)
theorem sj_icmp_ge {X : sj_X} {M : sj_M} (C : sj_C X M) {S : sj_St} {cl sl : Nat} {L : List (Option Value)} {pc : Nat} {rest : List Value} {x y : Int32} {off : Int} (tgt q : Nat) (hq : pc + 3 = q) (ht : (pc : Int) + off = (tgt : Int)) (hd : decode M.2.1 pc = .ok (.if_icmp .ge off, 3)) (kt : y ≤ x → sj_G X S cl sl L tgt rest) (kf : ¬ y ≤ x → sj_G X S cl sl L q rest) : sj_G X S cl sl L pc (.int y :: .int x :: rest) := by
  obtain ⟨p, l, e, R, s, m, args, below, meth, c, D, cy, A, nL, Q⟩ := X
  obtain ⟨ym, cc, nL0, ret, fr, lo, mc, ms⟩ := M
  obtain ⟨hx, hb, ⟨hml, hnL⟩, hown, hts, ⟨hlk, hret, hnm⟩, hK, hAm, hA, hRR⟩ := C
  subst hq
  intro H locs ls h1 h2 h3
  exact lv_icmp_ge hx hb hd ht (fun h => kt h H locs ls h1 h2 h3) (fun h => kf h H locs ls h1 h2 h3)
theorem sj_icmp_gt {X : sj_X} {M : sj_M} (C : sj_C X M) {S : sj_St} {cl sl : Nat} {L : List (Option Value)} {pc : Nat} {rest : List Value} {x y : Int32} {off : Int} (tgt q : Nat) (hq : pc + 3 = q) (ht : (pc : Int) + off = (tgt : Int)) (hd : decode M.2.1 pc = .ok (.if_icmp .gt off, 3)) (kt : y < x → sj_G X S cl sl L tgt rest) (kf : ¬ y < x → sj_G X S cl sl L q rest) : sj_G X S cl sl L pc (.int y :: .int x :: rest) := by
  obtain ⟨p, l, e, R, s, m, args, below, meth, c, D, cy, A, nL, Q⟩ := X
  obtain ⟨ym, cc, nL0, ret, fr, lo, mc, ms⟩ := M
  obtain ⟨hx, hb, ⟨hml, hnL⟩, hown, hts, ⟨hlk, hret, hnm⟩, hK, hAm, hA, hRR⟩ := C
  subst hq
  intro H locs ls h1 h2 h3
  exact lv_icmp_gt hx hb hd ht (fun h => kt h H locs ls h1 h2 h3) (fun h => kf h H locs ls h1 h2 h3)
theorem sj_icmp_le {X : sj_X} {M : sj_M} (C : sj_C X M) {S : sj_St} {cl sl : Nat} {L : List (Option Value)} {pc : Nat} {rest : List Value} {x y : Int32} {off : Int} (tgt q : Nat) (hq : pc + 3 = q) (ht : (pc : Int) + off = (tgt : Int)) (hd : decode M.2.1 pc = .ok (.if_icmp .le off, 3)) (kt : x ≤ y → sj_G X S cl sl L tgt rest) (kf : ¬ x ≤ y → sj_G X S cl sl L q rest) : sj_G X S cl sl L pc (.int y :: .int x :: rest) := by
  obtain ⟨p, l, e, R, s, m, args, below, meth, c, D, cy, A, nL, Q⟩ := X
  obtain ⟨ym, cc, nL0, ret, fr, lo, mc, ms⟩ := M
  obtain ⟨hx, hb, ⟨hml, hnL⟩, hown, hts, ⟨hlk, hret, hnm⟩, hK, hAm, hA, hRR⟩ := C
  subst hq
  intro H locs ls h1 h2 h3
  exact lv_icmp_le hx hb hd ht (fun h => kt h H locs ls h1 h2 h3) (fun h => kf h H locs ls h1 h2 h3)
theorem sj_if_eq {X : sj_X} {M : sj_M} (C : sj_C X M) {S : sj_St} {cl sl : Nat} {L : List (Option Value)} {pc : Nat} {rest : List Value} {x : Int32} {off : Int} (tgt q : Nat) (hq : pc + 3 = q) (ht : (pc : Int) + off = (tgt : Int)) (hd : decode M.2.1 pc = .ok (.ifCond .eq off, 3)) (kt : x = 0 → sj_G X S cl sl L tgt rest) (kf : ¬ x = 0 → sj_G X S cl sl L q rest) : sj_G X S cl sl L pc (.int x :: rest) := by
  obtain ⟨p, l, e, R, s, m, args, below, meth, c, D, cy, A, nL, Q⟩ := X
  obtain ⟨ym, cc, nL0, ret, fr, lo, mc, ms⟩ := M
  obtain ⟨hx, hb, ⟨hml, hnL⟩, hown, hts, ⟨hlk, hret, hnm⟩, hK, hAm, hA, hRR⟩ := C
  subst hq
  intro H locs ls h1 h2 h3
  exact lv_if_eq hx hb hd ht (fun h => kt h H locs ls h1 h2 h3) (fun h => kf h H locs ls h1 h2 h3)
theorem sj_if_ne {X : sj_X} {M : sj_M} (C : sj_C X M) {S : sj_St} {cl sl : Nat} {L : List (Option Value)} {pc : Nat} {rest : List Value} {x : Int32} {off : Int} (tgt q : Nat) (hq : pc + 3 = q) (ht : (pc : Int) + off = (tgt : Int)) (hd : decode M.2.1 pc = .ok (.ifCond .ne off, 3)) (kt : ¬ x = 0 → sj_G X S cl sl L tgt rest) (kf : x = 0 → sj_G X S cl sl L q rest) : sj_G X S cl sl L pc (.int x :: rest) := by
  obtain ⟨p, l, e, R, s, m, args, below, meth, c, D, cy, A, nL, Q⟩ := X
  obtain ⟨ym, cc, nL0, ret, fr, lo, mc, ms⟩ := M
  obtain ⟨hx, hb, ⟨hml, hnL⟩, hown, hts, ⟨hlk, hret, hnm⟩, hK, hAm, hA, hRR⟩ := C
  subst hq
  intro H locs ls h1 h2 h3
  exact lv_if_ne hx hb hd ht (fun h => kt h H locs ls h1 h2 h3) (fun h => kf h H locs ls h1 h2 h3)
theorem sj_if_lt {X : sj_X} {M : sj_M} (C : sj_C X M) {S : sj_St} {cl sl : Nat} {L : List (Option Value)} {pc : Nat} {rest : List Value} {x : Int32} {off : Int} (tgt q : Nat) (hq : pc + 3 = q) (ht : (pc : Int) + off = (tgt : Int)) (hd : decode M.2.1 pc = .ok (.ifCond .lt off, 3)) (kt : x < 0 → sj_G X S cl sl L tgt rest) (kf : ¬ x < 0 → sj_G X S cl sl L q rest) : sj_G X S cl sl L pc (.int x :: rest) := by
  obtain ⟨p, l, e, R, s, m, args, below, meth, c, D, cy, A, nL, Q⟩ := X
  obtain ⟨ym, cc, nL0, ret, fr, lo, mc, ms⟩ := M
  obtain ⟨hx, hb, ⟨hml, hnL⟩, hown, hts, ⟨hlk, hret, hnm⟩, hK, hAm, hA, hRR⟩ := C
  subst hq
  intro H locs ls h1 h2 h3
  exact lv_if_lt hx hb hd ht (fun h => kt h H locs ls h1 h2 h3) (fun h => kf h H locs ls h1 h2 h3)
theorem sj_if_ge {X : sj_X} {M : sj_M} (C : sj_C X M) {S : sj_St} {cl sl : Nat} {L : List (Option Value)} {pc : Nat} {rest : List Value} {x : Int32} {off : Int} (tgt q : Nat) (hq : pc + 3 = q) (ht : (pc : Int) + off = (tgt : Int)) (hd : decode M.2.1 pc = .ok (.ifCond .ge off, 3)) (kt : 0 ≤ x → sj_G X S cl sl L tgt rest) (kf : ¬ 0 ≤ x → sj_G X S cl sl L q rest) : sj_G X S cl sl L pc (.int x :: rest) := by
  obtain ⟨p, l, e, R, s, m, args, below, meth, c, D, cy, A, nL, Q⟩ := X
  obtain ⟨ym, cc, nL0, ret, fr, lo, mc, ms⟩ := M
  obtain ⟨hx, hb, ⟨hml, hnL⟩, hown, hts, ⟨hlk, hret, hnm⟩, hK, hAm, hA, hRR⟩ := C
  subst hq
  intro H locs ls h1 h2 h3
  exact lv_if_ge hx hb hd ht (fun h => kt h H locs ls h1 h2 h3) (fun h => kf h H locs ls h1 h2 h3)
theorem sj_if_gt {X : sj_X} {M : sj_M} (C : sj_C X M) {S : sj_St} {cl sl : Nat} {L : List (Option Value)} {pc : Nat} {rest : List Value} {x : Int32} {off : Int} (tgt q : Nat) (hq : pc + 3 = q) (ht : (pc : Int) + off = (tgt : Int)) (hd : decode M.2.1 pc = .ok (.ifCond .gt off, 3)) (kt : 0 < x → sj_G X S cl sl L tgt rest) (kf : ¬ 0 < x → sj_G X S cl sl L q rest) : sj_G X S cl sl L pc (.int x :: rest) := by
  obtain ⟨p, l, e, R, s, m, args, below, meth, c, D, cy, A, nL, Q⟩ := X
  obtain ⟨ym, cc, nL0, ret, fr, lo, mc, ms⟩ := M
  obtain ⟨hx, hb, ⟨hml, hnL⟩, hown, hts, ⟨hlk, hret, hnm⟩, hK, hAm, hA, hRR⟩ := C
  subst hq
  intro H locs ls h1 h2 h3
  exact lv_if_gt hx hb hd ht (fun h => kt h H locs ls h1 h2 h3) (fun h => kf h H locs ls h1 h2 h3)
theorem sj_if_le {X : sj_X} {M : sj_M} (C : sj_C X M) {S : sj_St} {cl sl : Nat} {L : List (Option Value)} {pc : Nat} {rest : List Value} {x : Int32} {off : Int} (tgt q : Nat) (hq : pc + 3 = q) (ht : (pc : Int) + off = (tgt : Int)) (hd : decode M.2.1 pc = .ok (.ifCond .le off, 3)) (kt : x ≤ 0 → sj_G X S cl sl L tgt rest) (kf : ¬ x ≤ 0 → sj_G X S cl sl L q rest) : sj_G X S cl sl L pc (.int x :: rest) := by
  obtain ⟨p, l, e, R, s, m, args, below, meth, c, D, cy, A, nL, Q⟩ := X
  obtain ⟨ym, cc, nL0, ret, fr, lo, mc, ms⟩ := M
  obtain ⟨hx, hb, ⟨hml, hnL⟩, hown, hts, ⟨hlk, hret, hnm⟩, hK, hAm, hA, hRR⟩ := C
  subst hq
  intro H locs ls h1 h2 h3
  exact lv_if_le hx hb hd ht (fun h => kt h H locs ls h1 h2 h3) (fun h => kf h H locs ls h1 h2 h3)
theorem sj_goto {X : sj_X} {M : sj_M} (C : sj_C X M) {S : sj_St} {cl sl : Nat} {L : List (Option Value)} {pc : Nat} {rest : List Value} {off : Int} (tgt : Nat) (ht : (pc : Int) + off = (tgt : Int)) (hd : decode M.2.1 pc = .ok (.goto off, 3)) (k : sj_G X S cl sl L tgt rest) : sj_G X S cl sl L pc rest := by
  obtain ⟨p, l, e, R, s, m, args, below, meth, c, D, cy, A, nL, Q⟩ := X
  obtain ⟨ym, cc, nL0, ret, fr, lo, mc, ms⟩ := M
  obtain ⟨hx, hb, ⟨hml, hnL⟩, hown, hts, ⟨hlk, hret, hnm⟩, hK, hAm, hA, hRR⟩ := C
  intro H locs ls h1 h2 h3
  exact lv_goto hx hb hd ht (k H locs ls h1 h2 h3)
theorem sj_ifnonnullS {X : sj_X} {M : sj_M} (C : sj_C X M) {S : sj_St} {cl sl : Nat} {L : List (Option Value)} {pc : Nat} {rest : List Value} {off : Int} {a : Nat} (tgt : Nat) (ht : (pc : Int) + off = (tgt : Int)) (hd : decode M.2.1 pc = .ok (.ifnonnull off, 3)) (k : sj_G X S cl sl L tgt rest) : sj_G X S cl sl L pc (.ref a :: rest) := by
  obtain ⟨p, l, e, R, s, m, args, below, meth, c, D, cy, A, nL, Q⟩ := X
  obtain ⟨ym, cc, nL0, ret, fr, lo, mc, ms⟩ := M
  obtain ⟨hx, hb, ⟨hml, hnL⟩, hown, hts, ⟨hlk, hret, hnm⟩, hK, hAm, hA, hRR⟩ := C
  intro H locs ls h1 h2 h3
  exact lv_ifnonnull hx hb hd ht (k H locs ls h1 h2 h3)
theorem sj_ifnullS {X : sj_X} {M : sj_M} (C : sj_C X M) {S : sj_St} {cl sl : Nat} {L : List (Option Value)} {pc : Nat} {rest : List Value} {off : Int} {a : Nat} (q : Nat) (hq : pc + 3 = q) (hd : decode M.2.1 pc = .ok (.ifnull off, 3)) (k : sj_G X S cl sl L q rest) : sj_G X S cl sl L pc (.ref a :: rest) := by
  obtain ⟨p, l, e, R, s, m, args, below, meth, c, D, cy, A, nL, Q⟩ := X
  obtain ⟨ym, cc, nL0, ret, fr, lo, mc, ms⟩ := M
  obtain ⟨hx, hb, ⟨hml, hnL⟩, hown, hts, ⟨hlk, hret, hnm⟩, hK, hAm, hA, hRR⟩ := C
  subst hq
  intro H locs ls h1 h2 h3
  exact lv_ifnull hx hb hd (k H locs ls h1 h2 h3)
theorem sj_ifnonnull {X : sj_X} {M : sj_M} (C : sj_C X M) {S : sj_St} {cl sl : Nat} {L : List (Option Value)} {pc : Nat} {rest : List Value} {off : Int} {o : Option Nat} (tgt q : Nat) (hq : pc + 3 = q) (ht : (pc : Int) + off = (tgt : Int)) (hd : decode M.2.1 pc = .ok (.ifnonnull off, 3)) (kt : ∀ a, o = some a → sj_G X S cl sl L tgt rest) (kf : o = none → sj_G X S cl sl L q rest) : sj_G X S cl sl L pc (va_rf o :: rest) := by
  obtain ⟨p, l, e, R, s, m, args, below, meth, c, D, cy, A, nL, Q⟩ := X
  obtain ⟨ym, cc, nL0, ret, fr, lo, mc, ms⟩ := M
  obtain ⟨hx, hb, ⟨hml, hnL⟩, hown, hts, ⟨hlk, hret, hnm⟩, hK, hAm, hA, hRR⟩ := C
  subst hq
  intro H locs ls h1 h2 h3
  cases o with
  | some a => exact lv_ifnonnull hx hb hd ht (kt a rfl H locs ls h1 h2 h3)
  | none => exact lv_ifnonnullN hx hb hd (kf rfl H locs ls h1 h2 h3)
theorem sj_ifnull {X : sj_X} {M : sj_M} (C : sj_C X M) {S : sj_St} {cl sl : Nat} {L : List (Option Value)} {pc : Nat} {rest : List Value} {off : Int} {o : Option Nat} (tgt q : Nat) (hq : pc + 3 = q) (ht : (pc : Int) + off = (tgt : Int)) (hd : decode M.2.1 pc = .ok (.ifnull off, 3)) (kt : o = none → sj_G X S cl sl L tgt rest) (kf : ∀ a, o = some a → sj_G X S cl sl L q rest) : sj_G X S cl sl L pc (va_rf o :: rest) := by
  obtain ⟨p, l, e, R, s, m, args, below, meth, c, D, cy, A, nL, Q⟩ := X
  obtain ⟨ym, cc, nL0, ret, fr, lo, mc, ms⟩ := M
  obtain ⟨hx, hb, ⟨hml, hnL⟩, hown, hts, ⟨hlk, hret, hnm⟩, hK, hAm, hA, hRR⟩ := C
  subst hq
  intro H locs ls h1 h2 h3
  cases o with
  | some a => exact lv_ifnull hx hb hd (kf a rfl H locs ls h1 h2 h3)
  | none => exact lv_ifnullN hx hb hd ht (kt rfl H locs ls h1 h2 h3)
theorem sj_tableIn {X : sj_X} {M : sj_M} (C : sj_C X M) {S : sj_St} {cl sl : Nat} {L : List (Option Value)} {pc : Nat} {rest : List Value} {dflt lo hi : Int} {offs : Array Int} {len : Nat} {x : Int32} {off : Int} (tgt : Nat) (hd : decode M.2.1 pc = .ok (.tableswitch dflt lo hi offs, len)) (h1 : ¬ x.toInt < lo) (h2 : ¬ hi < x.toInt) (ho : offs[(x.toInt - lo).toNat]? = some off) (ht : (pc : Int) + off = (tgt : Int)) (k : sj_G X S cl sl L tgt rest) : sj_G X S cl sl L pc (.int x :: rest) := by
  obtain ⟨p, l, e, R, s, m, args, below, meth, c, D, cy, A, nL, Q⟩ := X
  obtain ⟨ym, cc, nL0, ret, fr, lo9, mc, ms⟩ := M
  obtain ⟨hx, hb, ⟨hml, hnL⟩, hown, hts, ⟨hlk, hret, hnm⟩, hK, hAm, hA, hRR⟩ := C
  intro H locs ls g1 g2 g3
  exact lv_tableIn hx hb hd h1 h2 ho ht (k H locs ls g1 g2 g3)
theorem sj_tableOut {X : sj_X} {M : sj_M} (C : sj_C X M) {S : sj_St} {cl sl : Nat} {L : List (Option Value)} {pc : Nat} {rest : List Value} {dflt lo hi : Int} {offs : Array Int} {len : Nat} {x : Int32} (tgt : Nat) (hd : decode M.2.1 pc = .ok (.tableswitch dflt lo hi offs, len)) (h : x.toInt < lo ∨ hi < x.toInt) (ht : (pc : Int) + dflt = (tgt : Int)) (k : sj_G X S cl sl L tgt rest) : sj_G X S cl sl L pc (.int x :: rest) := by
  obtain ⟨p, l, e, R, s, m, args, below, meth, c, D, cy, A, nL, Q⟩ := X
  obtain ⟨ym, cc, nL0, ret, fr, lo9, mc, ms⟩ := M
  obtain ⟨hx, hb, ⟨hml, hnL⟩, hown, hts, ⟨hlk, hret, hnm⟩, hK, hAm, hA, hRR⟩ := C
  intro H locs ls g1 g2 g3
  exact lv_tableOut hx hb hd h ht (k H locs ls g1 g2 g3)
theorem sj_lookup {X : sj_X} {M : sj_M} (C : sj_C X M) {S : sj_St} {cl sl : Nat} {L : List (Option Value)} {pc : Nat} {rest : List Value} {dflt : Int} {ps : Array (Int × Int)} {len : Nat} {x : Int32} {off : Int} (tgt : Nat) (hd : decode M.2.1 pc = .ok (.lookupswitch dflt ps, len)) (hp : (ps.toList.zip (ps.toList.drop 1)).all (fun (a, next) => a.1 < next.1) = true) (ho : Op.lookupswitch.offset ps.toList dflt x.toInt = off) (ht : (pc : Int) + off = (tgt : Int)) (k : sj_G X S cl sl L tgt rest) : sj_G X S cl sl L pc (.int x :: rest) := by
  obtain ⟨p, l, e, R, s, m, args, below, meth, c, D, cy, A, nL, Q⟩ := X
  obtain ⟨ym, cc, nL0, ret, fr, lo, mc, ms⟩ := M
  obtain ⟨hx, hb, ⟨hml, hnL⟩, hown, hts, ⟨hlk, hret, hnm⟩, hK, hAm, hA, hRR⟩ := C
  intro H locs ls g1 g2 g3
  exact lv_lookup hx hb hd hp ho ht (k H locs ls g1 g2 g3)
theorem sj_ldc2 {X : sj_X} {M : sj_M} (C : sj_C X M) {S : sj_St} {cl sl : Nat} {L : List (Option Value)} {pc : Nat} {rest : List Value} {idx : Nat} (v : Int64) (q : Nat) (hq : pc + 3 = q) (hw : Cond.constantLong M.1.cls idx v ∈ sj_GT) (hd : decode M.2.1 pc = .ok (.ldc2_w idx, 3)) (k : sj_G X S cl sl L q (.long v :: rest)) : sj_G X S cl sl L pc rest := by
  obtain ⟨p, l, e, R, s, m, args, below, meth, c, D, cy, A, nL, Q⟩ := X
  obtain ⟨ym, cc, nL0, ret, fr, lo, mc, ms⟩ := M
  obtain ⟨hx, hb, ⟨hml, hnL⟩, hown, hts, ⟨hlk, hret, hnm⟩, hK, hAm, hA, hRR⟩ := C
  subst hq
  intro H locs ls g1 g2 g3
  exact lv_ldc2 hx hb hown (hts _ hw) hd (k H locs ls g1 g2 g3)
theorem sj_ldc2d {X : sj_X} {M : sj_M} (C : sj_C X M) {S : sj_St} {cl sl : Nat} {L : List (Option Value)} {pc : Nat} {rest : List Value} {idx : Nat} (v : UInt64) (q : Nat) (hq : pc + 3 = q) (hw : Cond.constantDouble M.1.cls idx v ∈ sj_GT) (hd : decode M.2.1 pc = .ok (.ldc2_w idx, 3)) (k : sj_G X S cl sl L q (.double v :: rest)) : sj_G X S cl sl L pc rest := by
  obtain ⟨p, l, e, R, s, m, args, below, meth, c, D, cy, A, nL, Q⟩ := X
  obtain ⟨ym, cc, nL0, ret, fr, lo, mc, ms⟩ := M
  obtain ⟨hx, hb, ⟨hml, hnL⟩, hown, hts, ⟨hlk, hret, hnm⟩, hK, hAm, hA, hRR⟩ := C
  subst hq
  intro H locs ls g1 g2 g3
  exact lv_ldc2d hx hb hown (hts _ hw) hd (k H locs ls g1 g2 g3)
end
section
def sj_Vi (own : String) (idx : Nat) (M : sj_M) (n : Nat) : Prop := match M with
  | (y, cc, nL, ret, _, _, _, _) => Cond.methodLink own idx y ∈ sj_GT ∧ Cond.instanceMethod y ∈ sj_GT ∧ Cond.initialized y.cls ∈ sj_GT ∧ Cond.code y cc nL ret ∈ sj_GT ∧ (y.cls ≠ "java/lang/invoke/MethodHandle" ∧ y.cls ≠ "java/lang/invoke/VarHandle") ∧ (parseMethodDescriptor y.desc).map (fun d => d.parameters.length) = some n
def sj_Vin (own : String) (idx : Nat) (M : sj_M) (n : Nat) : Prop := match M with
  | (y, cc, nL, ret, _, _, _, _) => Cond.methodLinkNest own idx y "SlantOaths" ∈ sj_NWl ∧ Cond.instanceMethod y ∈ sj_GT ∧ Cond.initialized y.cls ∈ sj_GT ∧ Cond.code y cc nL ret ∈ sj_GT ∧ (y.cls ≠ "java/lang/invoke/MethodHandle" ∧ y.cls ≠ "java/lang/invoke/VarHandle") ∧ (parseMethodDescriptor y.desc).map (fun d => d.parameters.length) = some n
-- ===== fields =====
def sj_df : List Nat → List Value := List.map (fun t => match t with | 0 => .int 0 | 1 => .null | _ => .long 0)
/-- what the tables say of a kind -/
def sj_K (ci : Nat) (C : String) (T : u_T) (N : Nat) (ty0 : Nat → FieldType) : Prop := vwCl[ci]? = some (C, T, N) ∧ (sj_tyl ci).length = N ∧ ci < 8 ∧ (∀ w ∈ u_ws C T N, w ∈ sj_GT) ∧ (∀ k, k < N → parseFieldDescriptor (T k).2.2.1 = some (ty0 k)) ∧ (∀ a, a < N → ∀ b, b < N → a ≠ b → (T a).2.1 ≠ (T b).2.1) ∧ (∀ j, j < N → defaultValue (ty0 j) = vp_V (sj_df (sj_tyl ci)) j)
def sj_L (own : String) (idx : Nat) (T : u_T) (k : Nat) : Prop := Cond.fieldLink own idx (T k).1 (T k).2.1 (T k).2.2.1 ∈ sj_GT ∨ Cond.fieldLinkNest own idx (T k).1 (T k).2.1 (T k).2.2.1 "SlantOaths" ∈ sj_NWl
/-- entry idx of own's table is field k of kind ci, of type ft (t: its sort); fin: whether it is final -/
def sj_Fd (own : String) (idx ci k t : Nat) (ft : FieldType) (fin : Bool) : Prop := ∃ (C : String) (T : u_T) (N : Nat) (ty0 : Nat → FieldType), sj_K ci C T N ty0 ∧ sj_L own idx T k ∧ k < N ∧ (sj_tyl ci)[k]? = some t ∧ ty0 k = ft ∧ (T k).2.2.2 = fin ∧ (T k).1 = C
theorem sj_kd_of {D : va_G} {cy : Nat → ClassId} {A : Nat → Prop} {S : sj_St} {H : Heap} {s : State} {a ci : Nat} {r : vw_C} (hK : va_K D vwCl (sj_tys cy) s) (h : sj_HP D cy A S H) (ha : sj_kd S a = some ci) (hc : vwCl[ci]? = some r) (h8 : ci < 8) : ∃ cell : Cell, H[a]? = some cell ∧ cell.vm.isStatics = false ∧ s.vm.findClass r.1 = some cell.cls := by
  obtain ⟨ws, hP, hD, hW⟩ := h
  obtain ⟨q0, hq0⟩ := hW a ci ha
  rw [sj_ce_obj _ _ _ h8] at hq0
  exact va_recv hK hP hc hq0
theorem sj_fv0 (S : sj_St) (a k : Nat) : sj_fv S a (0 + k) 0 = .int (sj_fi S a k) := by rw [Nat.zero_add]; rfl
theorem sj_fv1 (S : sj_St) (a k : Nat) : sj_fv S a (0 + k) 1 = va_rf (sj_rf S a k) := by rw [Nat.zero_add]; rfl
theorem sj_fv2 (S : sj_St) (a k : Nat) : sj_fv S a (0 + k) 2 = .long (sj_fl S a) := rfl
theorem sj_getI {X : sj_X} {M : sj_M} (C : sj_C X M) {S : sj_St} {cl sl : Nat} {L : List (Option Value)} {pc : Nat} {rest : List Value} {a ci k idx : Nat} {ft : FieldType} {fin : Bool} (q : Nat) (hq : pc + 3 = q) (hf : sj_Fd M.1.cls idx ci k 0 ft fin) (hd : decode M.2.1 pc = .ok (.getfield idx, 3)) (ha : sj_kd S a = some ci) (kk : sj_G X S cl sl L q (.int (sj_fi S a k) :: rest)) : sj_G X S cl sl L pc (.ref a :: rest) := by
  obtain ⟨p, l, e, R, s, m, args, below, meth, c, D, cy, A, nL, Q⟩ := X
  obtain ⟨ym, cc, nL0, ret, fr, lo, mc, ms⟩ := M
  obtain ⟨hx, hb, ⟨hml, hnL⟩, hown, hts, ⟨hlk, hret, hnm⟩, hK, hAm, hA, hRR⟩ := C
  subst hq
  obtain ⟨C0, T, N, ty0, ⟨hc, hlen, h8, hin, hty, hnm2, hdf⟩, hl, hk, ht, hft, hfin, hdecl⟩ := hf
  intro H locs ls h1 h2 h3
  have h1' := h1
  obtain ⟨ws, hP, hD, hWA⟩ := h1'
  obtain ⟨q0, hq0⟩ := hWA a ci ha
  rw [sj_ce_obj _ _ _ h8] at hq0
  have hv := sj_fs_get S a (sj_tyl ci) 0 k 0 ht
  rw [sj_fv0] at hv
  rcases hl with hl | hl
  · exact va_get hx hb hts hin hown hK hP q0 hq0 hc k hk (hts _ hl) (fun _ h => h) hv hd (kk H locs ls h1 h2 h3)
  · exact va_getN hx hb hts hin hown hK hP q0 hq0 hc k hk ((hAm.1 _ hl).use rfl) (fun _ h => h) hv hd (kk H locs ls h1 h2 h3)
theorem sj_getR {X : sj_X} {M : sj_M} (C : sj_C X M) {S : sj_St} {cl sl : Nat} {L : List (Option Value)} {pc : Nat} {rest : List Value} {a ci k idx : Nat} {ft : FieldType} {fin : Bool} (q : Nat) (hq : pc + 3 = q) (hf : sj_Fd M.1.cls idx ci k 1 ft fin) (hd : decode M.2.1 pc = .ok (.getfield idx, 3)) (ha : sj_kd S a = some ci) (kk : sj_G X S cl sl L q (va_rf (sj_rf S a k) :: rest)) : sj_G X S cl sl L pc (.ref a :: rest) := by
  obtain ⟨p, l, e, R, s, m, args, below, meth, c, D, cy, A, nL, Q⟩ := X
  obtain ⟨ym, cc, nL0, ret, fr, lo, mc, ms⟩ := M
  obtain ⟨hx, hb, ⟨hml, hnL⟩, hown, hts, ⟨hlk, hret, hnm⟩, hK, hAm, hA, hRR⟩ := C
  subst hq
  obtain ⟨C0, T, N, ty0, ⟨hc, hlen, h8, hin, hty, hnm2, hdf⟩, hl, hk, ht, hft, hfin, hdecl⟩ := hf
  intro H locs ls h1 h2 h3
  have h1' := h1
  obtain ⟨ws, hP, hD, hWA⟩ := h1'
  obtain ⟨q0, hq0⟩ := hWA a ci ha
  rw [sj_ce_obj _ _ _ h8] at hq0
  have hv := sj_fs_get S a (sj_tyl ci) 0 k 1 ht
  rw [sj_fv1] at hv
  rcases hl with hl | hl
  · exact va_get hx hb hts hin hown hK hP q0 hq0 hc k hk (hts _ hl) (fun _ h => h) hv hd (kk H locs ls h1 h2 h3)
  · exact va_getN hx hb hts hin hown hK hP q0 hq0 hc k hk ((hAm.1 _ hl).use rfl) (fun _ h => h) hv hd (kk H locs ls h1 h2 h3)
theorem sj_getJ {X : sj_X} {M : sj_M} (C : sj_C X M) {S : sj_St} {cl sl : Nat} {L : List (Option Value)} {pc : Nat} {rest : List Value} {a ci k idx : Nat} {ft : FieldType} {fin : Bool} (q : Nat) (hq : pc + 3 = q) (hf : sj_Fd M.1.cls idx ci k 2 ft fin) (hd : decode M.2.1 pc = .ok (.getfield idx, 3)) (ha : sj_kd S a = some ci) (kk : sj_G X S cl sl L q (.long (sj_fl S a) :: rest)) : sj_G X S cl sl L pc (.ref a :: rest) := by
  obtain ⟨p, l, e, R, s, m, args, below, meth, c, D, cy, A, nL, Q⟩ := X
  obtain ⟨ym, cc, nL0, ret, fr, lo, mc, ms⟩ := M
  obtain ⟨hx, hb, ⟨hml, hnL⟩, hown, hts, ⟨hlk, hret, hnm⟩, hK, hAm, hA, hRR⟩ := C
  subst hq
  obtain ⟨C0, T, N, ty0, ⟨hc, hlen, h8, hin, hty, hnm2, hdf⟩, hl, hk, ht, hft, hfin, hdecl⟩ := hf
  intro H locs ls h1 h2 h3
  have h1' := h1
  obtain ⟨ws, hP, hD, hWA⟩ := h1'
  obtain ⟨q0, hq0⟩ := hWA a ci ha
  rw [sj_ce_obj _ _ _ h8] at hq0
  have hv := sj_fs_get S a (sj_tyl ci) 0 k 2 ht
  rw [sj_fv2] at hv
  rcases hl with hl | hl
  · exact va_get hx hb hts hin hown hK hP q0 hq0 hc k hk (hts _ hl) (fun _ h => h) hv hd (kk H locs ls h1 h2 h3)
  · exact va_getN hx hb hts hin hown hK hP q0 hq0 hc k hk ((hAm.1 _ hl).use rfl) (fun _ h => h) hv hd (kk H locs ls h1 h2 h3)
theorem sj_getr {X : sj_X} {M : sj_M} (C : sj_C X M) {S : sj_St} {cl sl : Nat} {L : List (Option Value)} {pc : Nat} {rest : List Value} {a b ci k idx : Nat} {ft : FieldType} {fin : Bool} (q : Nat) (hq : pc + 3 = q) (hf : sj_Fd M.1.cls idx ci k 1 ft fin) (hd : decode M.2.1 pc = .ok (.getfield idx, 3)) (ha : sj_kd S a = some ci) (hb : sj_rf S a k = some b) (kk : sj_G X S cl sl L q (.ref b :: rest)) : sj_G X S cl sl L pc (.ref a :: rest) :=
  sj_getR C q hq hf hd ha (by rw [hb]; exact kk)
theorem sj_fs_other {S S' : sj_St} {b : Nat} (h1 : ∀ j, sj_fi S' b j = sj_fi S b j) (h2 : ∀ j, sj_rf S' b j = sj_rf S b j) (h3 : sj_fl S' b = sj_fl S b) (l : List Nat) (j : Nat) : sj_fs S' b j l = sj_fs S b j l := by
  refine sj_fs_congr l j (fun i t _ => ?_)
  match t with
  | 0 => exact congrArg Value.int (h1 _)
  | 1 => exact congrArg va_rf (h2 _)
  | _ + 2 => exact congrArg Value.long h3
theorem sj_ce_other {cy : Nat → ClassId} {S S' : sj_St} {b : Nat} (h1 : sj_fi S' b = sj_fi S b) (h2 : sj_rf S' b = sj_rf S b) (h3 : sj_fl S' b = sj_fl S b) (h4 : sj_il S' b = sj_il S b) (h5 : sj_ia S' b = sj_ia S b) (h6 : sj_ra S' b = sj_ra S b) (h7 : sj_la S' b = sj_la S b) (cj : Nat) : sj_ce cy S' b cj = sj_ce cy S b cj := by
  have h0 : ∀ l j, sj_fs S' b j l = sj_fs S b j l := sj_fs_other (fun j => by rw [h1]) (fun j => by rw [h2]) h3
  unfold sj_ce
  split <;> simp only [h4, h5, h6, h7, h0]
theorem sj_putI {X : sj_X} {M : sj_M} (C : sj_C X M) {S : sj_St} {cl sl : Nat} {L : List (Option Value)} {pc : Nat} {rest : List Value} {a ci k idx : Nat} {ft : FieldType} {v : Int32} (q : Nat) (hq : pc + 3 = q) (hf : sj_Fd M.1.cls idx ci k 0 ft false) (hd : decode M.2.1 pc = .ok (.putfield idx, 3)) (hn : narrow ft (.int v) = .int v) (hfit : fits ft (.int v) = true) (ha : sj_kd S a = some ci) (kk : sj_G X (sj_wFi S a k v) cl sl L q rest) : sj_G X S cl sl L pc (.int v :: .ref a :: rest) := by
  obtain ⟨p, l, e, R, s, m, args, below, meth, c, D, cy, A, nL, Q⟩ := X
  obtain ⟨ym, cc, nL0, ret, fr, lo, mc, ms⟩ := M
  obtain ⟨hx, hb, ⟨hml, hnL⟩, hown, hts, ⟨hlk, hret, hnm⟩, hK, hAm, hA, hRR⟩ := C
  subst hq
  obtain ⟨C0, T, N, ty0, ⟨hc, hlen, h8, hin, hty, hnm2, hdf⟩, hl, hk, ht, hft, hfin, hdecl⟩ := hf
  subst hft
  intro H locs ls h1 h2 h3
  obtain ⟨ws, hP, hD, hWA⟩ := h1
  obtain ⟨q0, hq0⟩ := hWA a ci ha
  rw [sj_ce_obj _ _ _ h8] at hq0
  have hlt : k < (sj_tyl ci).length := by rw [hlen]; exact hk
  have hset : (sj_fs S a 0 (sj_tyl ci)).set k (.int v) = sj_fs (sj_wFi S a k v) a 0 (sj_tyl ci) := by
    refine sj_fs_set (sj_tyl ci) 0 k _ hlt (fun t h => ?_) (fun i t h hne => ?_)
    · cases ht.symm.trans h
      rw [sj_fv0]
      show Value.int (sj_up (sj_fi S) a (sj_up (sj_fi S a) k v) a k) = _
      rw [sj_up_self, sj_up_self]
    · rw [Nat.zero_add]
      match t with
      | 0 =>
        show Value.int (sj_up (sj_fi S) a (sj_up (sj_fi S a) k v) a i) = Value.int (sj_fi S a i)
        rw [sj_up_self, sj_up_ne _ _ hne]
      | 1 => rfl
      | _ + 2 => rfl
  have hWA' : sj_WA cy (sj_wFi S a k v) (ws.set q0 (a, .inr (ci, (sj_fs S a 0 (sj_tyl ci)).set k (.int v)))) := by
    rw [hset, ← sj_ce_obj cy _ _ h8]
    exact sj_WA_set hWA rfl hq0 ha (fun b cj hb => sj_ce_other (S := S) (S' := sj_wFi S a k v) (sj_up_ne _ _ hb) rfl rfl rfl rfl rfl rfl cj)
  rcases hl with hl | hl
  · exact va_put hx hb hts hin ty0 hty hnm2 hown hK hP hD h2 q0 hq0 hc k hk (hts _ hl) (fun _ h => h) hfin (hty k hk) hn hfit (by rw [sj_fs_len]; exact hlt) hd (fun H1 locs1 hP1 hD1 hS1 => kk H1 locs1 ls ⟨_, hP1, hD1, hWA'⟩ hS1 h3)
  · exact va_putN hx hb hts hin ty0 hty hnm2 hown hK hP hD h2 q0 hq0 hc k hk ((hAm.1 _ hl).use rfl) (fun _ h => h) hfin (hty k hk) hn hfit (by rw [sj_fs_len]; exact hlt) hd (fun H1 locs1 hP1 hD1 hS1 => kk H1 locs1 ls ⟨_, hP1, hD1, hWA'⟩ hS1 h3)
theorem sj_putJ {X : sj_X} {M : sj_M} (C : sj_C X M) {S : sj_St} {cl sl : Nat} {L : List (Option Value)} {pc : Nat} {rest : List Value} {a ci k idx : Nat} {ft : FieldType} {v : Int64} (q : Nat) (hq : pc + 3 = q) (hf : sj_Fd M.1.cls idx ci k 2 ft false) (hd : decode M.2.1 pc = .ok (.putfield idx, 3)) (hn : narrow ft (.long v) = .long v) (hfit : fits ft (.long v) = true) (h1only : ∀ i t, (sj_tyl ci)[i]? = some t → i ≠ k → t < 2) (ha : sj_kd S a = some ci) (kk : sj_G X (sj_wFl S a v) cl sl L q rest) : sj_G X S cl sl L pc (.long v :: .ref a :: rest) := by
  obtain ⟨p, l, e, R, s, m, args, below, meth, c, D, cy, A, nL, Q⟩ := X
  obtain ⟨ym, cc, nL0, ret, fr, lo, mc, ms⟩ := M
  obtain ⟨hx, hb, ⟨hml, hnL⟩, hown, hts, ⟨hlk, hret, hnm⟩, hK, hAm, hA, hRR⟩ := C
  subst hq
  obtain ⟨C0, T, N, ty0, ⟨hc, hlen, h8, hin, hty, hnm2, hdf⟩, hl, hk, ht, hft, hfin, hdecl⟩ := hf
  subst hft
  intro H locs ls h1 h2 h3
  obtain ⟨ws, hP, hD, hWA⟩ := h1
  obtain ⟨q0, hq0⟩ := hWA a ci ha
  rw [sj_ce_obj _ _ _ h8] at hq0
  have hlt : k < (sj_tyl ci).length := by rw [hlen]; exact hk
  have hset : (sj_fs S a 0 (sj_tyl ci)).set k (.long v) = sj_fs (sj_wFl S a v) a 0 (sj_tyl ci) := by
    refine sj_fs_set (sj_tyl ci) 0 k _ hlt (fun t h => ?_) (fun i t h hne => ?_)
    · cases ht.symm.trans h
      show Value.long (sj_up (sj_fl S) a v a) = _
      rw [sj_up_self]
    · have h0 := h1only i t h hne
      match t, h0 with
      | 0, _ => rfl
      | 1, _ => rfl
      | _ + 2, h0 => exact absurd h0 (by omega)
  have hWA' : sj_WA cy (sj_wFl S a v) (ws.set q0 (a, .inr (ci, (sj_fs S a 0 (sj_tyl ci)).set k (.long v)))) := by
    rw [hset, ← sj_ce_obj cy _ _ h8]
    exact sj_WA_set hWA rfl hq0 ha (fun b cj hb => sj_ce_other (S := S) (S' := sj_wFl S a v) rfl rfl (sj_up_ne _ _ hb) rfl rfl rfl rfl cj)
  rcases hl with hl | hl
  · exact va_put hx hb hts hin ty0 hty hnm2 hown hK hP hD h2 q0 hq0 hc k hk (hts _ hl) (fun _ h => h) hfin (hty k hk) hn hfit (by rw [sj_fs_len]; exact hlt) hd (fun H1 locs1 hP1 hD1 hS1 => kk H1 locs1 ls ⟨_, hP1, hD1, hWA'⟩ hS1 h3)
  · exact va_putN hx hb hts hin ty0 hty hnm2 hown hK hP hD h2 q0 hq0 hc k hk ((hAm.1 _ hl).use rfl) (fun _ h => h) hfin (hty k hk) hn hfit (by rw [sj_fs_len]; exact hlt) hd (fun H1 locs1 hP1 hD1 hS1 => kk H1 locs1 ls ⟨_, hP1, hD1, hWA'⟩ hS1 h3)
theorem sj_putRF {X : sj_X} {M : sj_M} (C : sj_C X M) {S : sj_St} {cl sl : Nat} {L : List (Option Value)} {pc : Nat} {rest : List Value} {a ci k idx : Nat} {ft : FieldType} {v : Option Nat} (q : Nat) (hq : pc + 3 = q) (hf : sj_Fd M.1.cls idx ci k 1 ft true) (hd : decode M.2.1 pc = .ok (.putfield idx, 3)) (hn : narrow ft (va_rf v) = va_rf v) (hfit : fits ft (va_rf v) = true) (hinit : M.1.name = "<init>") (hown1 : ∀ C1 T1 N1, vwCl[ci]? = some (C1, T1, N1) → C1 = M.1.cls) (hnoN : ∀ a b c e, ¬ Cond.fieldLinkNest M.1.cls idx a b c e ∈ sj_NWl) (ha : sj_kd S a = some ci) (kk : sj_G X (sj_wRf S a k v) cl sl L q rest) : sj_G X S cl sl L pc (va_rf v :: .ref a :: rest) := by
  obtain ⟨p, l, e, R, s, m, args, below, meth, c, D, cy, A, nL, Q⟩ := X
  obtain ⟨ym, cc, nL0, ret, fr, lo, mc, ms⟩ := M
  obtain ⟨hx, hb, ⟨hml, hnL⟩, hown, hts, ⟨hlk, hret, hnm⟩, hK, hAm, hA, hRR⟩ := C
  subst hq
  obtain ⟨C0, T, N, ty0, ⟨hc, hlen, h8, hin, hty, hnm2, hdf⟩, hl, hk, ht, hft, hfin, hdecl⟩ := hf
  subst hft
  intro H locs ls h1 h2 h3
  obtain ⟨ws, hP, hD, hWA⟩ := h1
  obtain ⟨q0, hq0⟩ := hWA a ci ha
  rw [sj_ce_obj _ _ _ h8] at hq0
  have hlt : k < (sj_tyl ci).length := by rw [hlen]; exact hk
  have hset : (sj_fs S a 0 (sj_tyl ci)).set k (va_rf v) = sj_fs (sj_wRf S a k v) a 0 (sj_tyl ci) := by
    refine sj_fs_set (sj_tyl ci) 0 k _ hlt (fun t h => ?_) (fun i t h hne => ?_)
    · cases ht.symm.trans h
      rw [sj_fv1]
      show va_rf (sj_up (sj_rf S) a (sj_up (sj_rf S a) k v) a k) = _
      rw [sj_up_self, sj_up_self]
    · rw [Nat.zero_add]
      match t with
      | 0 => rfl
      | 1 =>
        show va_rf (sj_up (sj_rf S) a (sj_up (sj_rf S a) k v) a i) = va_rf (sj_rf S a i)
        rw [sj_up_self, sj_up_ne _ _ hne]
      | _ + 2 => rfl
  have hWA' : sj_WA cy (sj_wRf S a k v) (ws.set q0 (a, .inr (ci, (sj_fs S a 0 (sj_tyl ci)).set k (va_rf v)))) := by
    rw [hset, ← sj_ce_obj cy _ _ h8]
    exact sj_WA_set hWA rfl hq0 ha (fun b cj hb => sj_ce_other (S := S) (S' := sj_wRf S a k v) rfl (sj_up_ne _ _ hb) rfl rfl rfl rfl rfl cj)
  rcases hl with hl | hl
  · exact va_putF hx hb hts hin ty0 hty hnm2 hown hK hP hD h2 q0 hq0 hc k hk (hts _ hl) (fun _ h => h) hfin (hnm.trans hinit) (hdecl.trans (hown1 _ _ _ hc)) (hty k hk) hn hfit (by rw [sj_fs_len]; exact hlt) hd (fun H1 locs1 hP1 hD1 hS1 => kk H1 locs1 ls ⟨_, hP1, hD1, hWA'⟩ hS1 h3)
  · exact absurd hl (hnoN _ _ _ _)
theorem sj_putIF {X : sj_X} {M : sj_M} (C : sj_C X M) {S : sj_St} {cl sl : Nat} {L : List (Option Value)} {pc : Nat} {rest : List Value} {a ci k idx : Nat} {ft : FieldType} {v : Int32} (q : Nat) (hq : pc + 3 = q) (hf : sj_Fd M.1.cls idx ci k 0 ft true) (hd : decode M.2.1 pc = .ok (.putfield idx, 3)) (hn : narrow ft (.int v) = .int v) (hfit : fits ft (.int v) = true) (hinit : M.1.name = "<init>") (hown1 : ∀ C1 T1 N1, vwCl[ci]? = some (C1, T1, N1) → C1 = M.1.cls) (hnoN : ∀ a b c e, ¬ Cond.fieldLinkNest M.1.cls idx a b c e ∈ sj_NWl) (ha : sj_kd S a = some ci) (kk : sj_G X (sj_wFi S a k v) cl sl L q rest) : sj_G X S cl sl L pc (.int v :: .ref a :: rest) := by
  obtain ⟨p, l, e, R, s, m, args, below, meth, c, D, cy, A, nL, Q⟩ := X
  obtain ⟨ym, cc, nL0, ret, fr, lo, mc, ms⟩ := M
  obtain ⟨hx, hb, ⟨hml, hnL⟩, hown, hts, ⟨hlk, hret, hnm⟩, hK, hAm, hA, hRR⟩ := C
  subst hq
  obtain ⟨C0, T, N, ty0, ⟨hc, hlen, h8, hin, hty, hnm2, hdf⟩, hl, hk, ht, hft, hfin, hdecl⟩ := hf
  subst hft
  intro H locs ls h1 h2 h3
  obtain ⟨ws, hP, hD, hWA⟩ := h1
  obtain ⟨q0, hq0⟩ := hWA a ci ha
  rw [sj_ce_obj _ _ _ h8] at hq0
  have hlt : k < (sj_tyl ci).length := by rw [hlen]; exact hk
  have hset : (sj_fs S a 0 (sj_tyl ci)).set k (.int v) = sj_fs (sj_wFi S a k v) a 0 (sj_tyl ci) := by
    refine sj_fs_set (sj_tyl ci) 0 k _ hlt (fun t h => ?_) (fun i t h hne => ?_)
    · cases ht.symm.trans h
      rw [sj_fv0]
      show Value.int (sj_up (sj_fi S) a (sj_up (sj_fi S a) k v) a k) = _
      rw [sj_up_self, sj_up_self]
    · rw [Nat.zero_add]
      match t with
      | 0 =>
        show Value.int (sj_up (sj_fi S) a (sj_up (sj_fi S a) k v) a i) = Value.int (sj_fi S a i)
        rw [sj_up_self, sj_up_ne _ _ hne]
      | 1 => rfl
      | _ + 2 => rfl
  have hWA' : sj_WA cy (sj_wFi S a k v) (ws.set q0 (a, .inr (ci, (sj_fs S a 0 (sj_tyl ci)).set k (.int v)))) := by
    rw [hset, ← sj_ce_obj cy _ _ h8]
    exact sj_WA_set hWA rfl hq0 ha (fun b cj hb => sj_ce_other (S := S) (S' := sj_wFi S a k v) (sj_up_ne _ _ hb) rfl rfl rfl rfl rfl rfl cj)
  rcases hl with hl | hl
  · exact va_putF hx hb hts hin ty0 hty hnm2 hown hK hP hD h2 q0 hq0 hc k hk (hts _ hl) (fun _ h => h) hfin (hnm.trans hinit) (hdecl.trans (hown1 _ _ _ hc)) (hty k hk) hn hfit (by rw [sj_fs_len]; exact hlt) hd (fun H1 locs1 hP1 hD1 hS1 => kk H1 locs1 ls ⟨_, hP1, hD1, hWA'⟩ hS1 h3)
  · exact absurd hl (hnoN _ _ _ _)
-- ===== rows =====
theorem sj_iald {X : sj_X} {M : sj_M} (C : sj_C X M) {S : sj_St} {cl sl : Nat} {L : List (Option Value)} {pc : Nat} {rest : List Value} {a : Nat} {i : Int32} (q : Nat) (hq : pc + 1 = q) (hd : decode M.2.1 pc = .ok (.iaload, 1)) (ha : sj_kd S a = some 8) (hi : vp_in i (sj_il S a)) (kk : sj_G X S cl sl L q (.int (sj_ia S a i.toNatClampNeg) :: rest)) : sj_G X S cl sl L pc (.int i :: .ref a :: rest) := by
  obtain ⟨p, l, e, R, s, m, args, below, meth, c, D, cy, A, nL, Q⟩ := X
  obtain ⟨ym, cc, nL0, ret, fr, lo, mc, ms⟩ := M
  obtain ⟨hx, hb, ⟨hml, hnL⟩, hown, hts, ⟨hlk, hret, hnm⟩, hK, hAm, hA, hRR⟩ := C
  subst hq
  intro H locs ls h1 h2 h3
  have h1' := h1
  obtain ⟨ws, hP, hD, hWA⟩ := h1'
  obtain ⟨q0, hq0⟩ := hWA a 8 ha
  exact va_iald hx hb hK hP q0 0 hq0 rfl hi hd (kk H locs ls h1 h2 h3)
theorem sj_iast {X : sj_X} {M : sj_M} (C : sj_C X M) {S : sj_St} {cl sl : Nat} {L : List (Option Value)} {pc : Nat} {rest : List Value} {a : Nat} {i v : Int32} (q : Nat) (hq : pc + 1 = q) (hd : decode M.2.1 pc = .ok (.iastore, 1)) (ha : sj_kd S a = some 8) (hi : vp_in i (sj_il S a)) (kk : sj_G X (sj_wIa S a i.toNatClampNeg v) cl sl L q rest) : sj_G X S cl sl L pc (.int v :: .int i :: .ref a :: rest) := by
  obtain ⟨p, l, e, R, s, m, args, below, meth, c, D, cy, A, nL, Q⟩ := X
  obtain ⟨ym, cc, nL0, ret, fr, lo, mc, ms⟩ := M
  obtain ⟨hx, hb, ⟨hml, hnL⟩, hown, hts, ⟨hlk, hret, hnm⟩, hK, hAm, hA, hRR⟩ := C
  subst hq
  intro H locs ls h1 h2 h3
  obtain ⟨ws, hP, hD, hWA⟩ := h1
  obtain ⟨q0, hq0⟩ := hWA a 8 ha
  have hce : sj_ce cy (sj_wIa S a i.toNatClampNeg v) a 8 = .inl (cy 0, sj_il S a, .inl (upd (sj_ia S a) i.toNatClampNeg v)) := by
    show (Sum.inl (cy 0, sj_il S a, .inl (sj_up (sj_ia S) a (upd (sj_ia S a) i.toNatClampNeg v) a)) : va_E) = _
    rw [sj_up_self]
  have hWA' : sj_WA cy (sj_wIa S a i.toNatClampNeg v) (ws.set q0 (a, .inl (cy 0, sj_il S a, .inl (upd (sj_ia S a) i.toNatClampNeg v)))) := by
    rw [← hce]
    exact sj_WA_set hWA rfl hq0 ha (fun b cj hb => sj_ce_other (S := S) (S' := sj_wIa S a i.toNatClampNeg v) rfl rfl rfl rfl (sj_up_ne _ _ hb) rfl rfl cj)
  exact va_iast hx hb hK hP hD h2 q0 0 hq0 rfl hi hd (fun H1 locs1 hP1 hD1 hS1 => kk H1 locs1 ls ⟨_, hP1, hD1, hWA'⟩ hS1 h3)
theorem sj_lald {X : sj_X} {M : sj_M} (C : sj_C X M) {S : sj_St} {cl sl : Nat} {L : List (Option Value)} {pc : Nat} {rest : List Value} {a : Nat} {i : Int32} (q : Nat) (hq : pc + 1 = q) (hd : decode M.2.1 pc = .ok (.laload, 1)) (ha : sj_kd S a = some 11) (hi : vp_in i (sj_il S a)) (kk : sj_G X S cl sl L q (.long (sj_la S a i.toNatClampNeg) :: rest)) : sj_G X S cl sl L pc (.int i :: .ref a :: rest) := by
  obtain ⟨p, l, e, R, s, m, args, below, meth, c, D, cy, A, nL, Q⟩ := X
  obtain ⟨ym, cc, nL0, ret, fr, lo, mc, ms⟩ := M
  obtain ⟨hx, hb, ⟨hml, hnL⟩, hown, hts, ⟨hlk, hret, hnm⟩, hK, hAm, hA, hRR⟩ := C
  subst hq
  intro H locs ls h1 h2 h3
  have h1' := h1
  obtain ⟨ws, hP, hD, hWA⟩ := h1'
  obtain ⟨q0, hq0⟩ := hWA a 11 ha
  exact va_lald hx hb hK hP q0 3 hq0 rfl hi hd (kk H locs ls h1 h2 h3)
theorem sj_last {X : sj_X} {M : sj_M} (C : sj_C X M) {S : sj_St} {cl sl : Nat} {L : List (Option Value)} {pc : Nat} {rest : List Value} {a : Nat} {i : Int32} {v : Int64} (q : Nat) (hq : pc + 1 = q) (hd : decode M.2.1 pc = .ok (.lastore, 1)) (ha : sj_kd S a = some 11) (hi : vp_in i (sj_il S a)) (kk : sj_G X (sj_wLa S a i.toNatClampNeg v) cl sl L q rest) : sj_G X S cl sl L pc (.long v :: .int i :: .ref a :: rest) := by
  obtain ⟨p, l, e, R, s, m, args, below, meth, c, D, cy, A, nL, Q⟩ := X
  obtain ⟨ym, cc, nL0, ret, fr, lo, mc, ms⟩ := M
  obtain ⟨hx, hb, ⟨hml, hnL⟩, hown, hts, ⟨hlk, hret, hnm⟩, hK, hAm, hA, hRR⟩ := C
  subst hq
  intro H locs ls h1 h2 h3
  obtain ⟨ws, hP, hD, hWA⟩ := h1
  obtain ⟨q0, hq0⟩ := hWA a 11 ha
  have hce : sj_ce cy (sj_wLa S a i.toNatClampNeg v) a 11 = .inl (cy 3, sj_il S a, .inr (.inl (vp_updL (sj_la S a) i.toNatClampNeg v))) := by
    show (Sum.inl (cy 3, sj_il S a, .inr (.inl (sj_up (sj_la S) a (vp_updL (sj_la S a) i.toNatClampNeg v) a))) : va_E) = _
    rw [sj_up_self]
  have hWA' : sj_WA cy (sj_wLa S a i.toNatClampNeg v) (ws.set q0 (a, .inl (cy 3, sj_il S a, .inr (.inl (vp_updL (sj_la S a) i.toNatClampNeg v))))) := by
    rw [← hce]
    exact sj_WA_set hWA rfl hq0 ha (fun b cj hb => sj_ce_other (S := S) (S' := sj_wLa S a i.toNatClampNeg v) rfl rfl rfl rfl rfl rfl (sj_up_ne _ _ hb) cj)
  exact va_last hx hb hK hP hD h2 q0 3 hq0 rfl hi hd (fun H1 locs1 hP1 hD1 hS1 => kk H1 locs1 ls ⟨_, hP1, hD1, hWA'⟩ hS1 h3)
theorem sj_aald9 {X : sj_X} {M : sj_M} (C : sj_C X M) {S : sj_St} {cl sl : Nat} {L : List (Option Value)} {pc : Nat} {rest : List Value} {a : Nat} {i : Int32} (q : Nat) (hq : pc + 1 = q) (hd : decode M.2.1 pc = .ok (.aaload, 1)) (ha : sj_kd S a = some 9) (hi : vp_in i (sj_il S a)) (kk : sj_G X S cl sl L q (va_rf (sj_ra S a i.toNatClampNeg) :: rest)) : sj_G X S cl sl L pc (.int i :: .ref a :: rest) := by
  obtain ⟨p, l, e, R, s, m, args, below, meth, c, D, cy, A, nL, Q⟩ := X
  obtain ⟨ym, cc, nL0, ret, fr, lo, mc, ms⟩ := M
  obtain ⟨hx, hb, ⟨hml, hnL⟩, hown, hts, ⟨hlk, hret, hnm⟩, hK, hAm, hA, hRR⟩ := C
  subst hq
  intro H locs ls h1 h2 h3
  have h1' := h1
  obtain ⟨ws, hP, hD, hWA⟩ := h1'
  obtain ⟨q0, hq0⟩ := hWA a 9 ha
  exact va_aldq hx hb hK hP q0 1 hq0 rfl hi hd (kk H locs ls h1 h2 h3)
theorem sj_aast9 {X : sj_X} {M : sj_M} (C : sj_C X M) {S : sj_St} {cl sl : Nat} {L : List (Option Value)} {pc : Nat} {rest : List Value} {a : Nat} {i : Int32} {v : Option Nat} (q : Nat) (hq : pc + 1 = q) (hd : decode M.2.1 pc = .ok (.aastore, 1)) (ha : sj_kd S a = some 9) (hi : vp_in i (sj_il S a)) (hv : ∀ b, v = some b → sj_kd S b = some 3) (kk : sj_G X (sj_wRa S a i.toNatClampNeg v) cl sl L q rest) : sj_G X S cl sl L pc (va_rf v :: .int i :: .ref a :: rest) := by
  obtain ⟨p, l, e, R, s, m, args, below, meth, c, D, cy, A, nL, Q⟩ := X
  obtain ⟨ym, cc, nL0, ret, fr, lo, mc, ms⟩ := M
  obtain ⟨hx, hb, ⟨hml, hnL⟩, hown, hts, ⟨hlk, hret, hnm⟩, hK, hAm, hA, hRR⟩ := C
  subst hq
  intro H locs ls h1 h2 h3
  obtain ⟨ws, hP, hD, hWA⟩ := h1
  obtain ⟨q0, hq0⟩ := hWA a 9 ha
  have hce : sj_ce cy (sj_wRa S a i.toNatClampNeg v) a 9 = .inl (cy 1, sj_il S a, .inr (.inr (.inr (.inr (va_up (sj_ra S a) i.toNatClampNeg v))))) := by
    show (Sum.inl (cy 1, sj_il S a, .inr (.inr (.inr (.inr (sj_up (sj_ra S) a (va_up (sj_ra S a) i.toNatClampNeg v) a))))) : va_E) = _
    rw [sj_up_self]
  have hWA' : sj_WA cy (sj_wRa S a i.toNatClampNeg v) (ws.set q0 (a, .inl (cy 1, sj_il S a, .inr (.inr (.inr (.inr (va_up (sj_ra S a) i.toNatClampNeg v))))))) := by
    rw [← hce]
    exact sj_WA_set hWA rfl hq0 ha (fun b cj hb => sj_ce_other (S := S) (S' := sj_wRa S a i.toNatClampNeg v) rfl rfl rfl rfl rfl (sj_up_ne _ _ hb) rfl cj)
  cases v with
  | some b =>
    obtain ⟨qk, hqk⟩ := hWA b 3 (hv b rfl)
    exact va_astq hx hb hK hP hD h2 q0 1 qk 3 hq0 rfl hqk rfl hi hd (fun H1 locs1 hP1 hD1 hS1 => kk H1 locs1 ls ⟨_, hP1, hD1, hWA'⟩ hS1 h3)
  | none => exact va_astqN hx hb hK hP hD h2 q0 1 hq0 rfl hi hd (fun H1 locs1 hP1 hD1 hS1 => kk H1 locs1 ls ⟨_, hP1, hD1, hWA'⟩ hS1 h3)
theorem sj_aald10 {X : sj_X} {M : sj_M} (C : sj_C X M) {S : sj_St} {cl sl : Nat} {L : List (Option Value)} {pc : Nat} {rest : List Value} {a : Nat} {i : Int32} (q : Nat) (hq : pc + 1 = q) (hd : decode M.2.1 pc = .ok (.aaload, 1)) (ha : sj_kd S a = some 10) (hi : vp_in i (sj_il S a)) (kk : sj_G X S cl sl L q (va_rf (sj_ra S a i.toNatClampNeg) :: rest)) : sj_G X S cl sl L pc (.int i :: .ref a :: rest) := by
  obtain ⟨p, l, e, R, s, m, args, below, meth, c, D, cy, A, nL, Q⟩ := X
  obtain ⟨ym, cc, nL0, ret, fr, lo, mc, ms⟩ := M
  obtain ⟨hx, hb, ⟨hml, hnL⟩, hown, hts, ⟨hlk, hret, hnm⟩, hK, hAm, hA, hRR⟩ := C
  subst hq
  intro H locs ls h1 h2 h3
  have h1' := h1
  obtain ⟨ws, hP, hD, hWA⟩ := h1'
  obtain ⟨q0, hq0⟩ := hWA a 10 ha
  exact va_aldq hx hb hK hP q0 2 hq0 rfl hi hd (kk H locs ls h1 h2 h3)
theorem sj_aast10 {X : sj_X} {M : sj_M} (C : sj_C X M) {S : sj_St} {cl sl : Nat} {L : List (Option Value)} {pc : Nat} {rest : List Value} {a : Nat} {i : Int32} {v : Option Nat} (q : Nat) (hq : pc + 1 = q) (hd : decode M.2.1 pc = .ok (.aastore, 1)) (ha : sj_kd S a = some 10) (hi : vp_in i (sj_il S a)) (hv : ∀ b, v = some b → sj_kd S b = some 4) (kk : sj_G X (sj_wRa S a i.toNatClampNeg v) cl sl L q rest) : sj_G X S cl sl L pc (va_rf v :: .int i :: .ref a :: rest) := by
  obtain ⟨p, l, e, R, s, m, args, below, meth, c, D, cy, A, nL, Q⟩ := X
  obtain ⟨ym, cc, nL0, ret, fr, lo, mc, ms⟩ := M
  obtain ⟨hx, hb, ⟨hml, hnL⟩, hown, hts, ⟨hlk, hret, hnm⟩, hK, hAm, hA, hRR⟩ := C
  subst hq
  intro H locs ls h1 h2 h3
  obtain ⟨ws, hP, hD, hWA⟩ := h1
  obtain ⟨q0, hq0⟩ := hWA a 10 ha
  have hce : sj_ce cy (sj_wRa S a i.toNatClampNeg v) a 10 = .inl (cy 2, sj_il S a, .inr (.inr (.inr (.inr (va_up (sj_ra S a) i.toNatClampNeg v))))) := by
    show (Sum.inl (cy 2, sj_il S a, .inr (.inr (.inr (.inr (sj_up (sj_ra S) a (va_up (sj_ra S a) i.toNatClampNeg v) a))))) : va_E) = _
    rw [sj_up_self]
  have hWA' : sj_WA cy (sj_wRa S a i.toNatClampNeg v) (ws.set q0 (a, .inl (cy 2, sj_il S a, .inr (.inr (.inr (.inr (va_up (sj_ra S a) i.toNatClampNeg v))))))) := by
    rw [← hce]
    exact sj_WA_set hWA rfl hq0 ha (fun b cj hb => sj_ce_other (S := S) (S' := sj_wRa S a i.toNatClampNeg v) rfl rfl rfl rfl rfl (sj_up_ne _ _ hb) rfl cj)
  cases v with
  | some b =>
    obtain ⟨qk, hqk⟩ := hWA b 4 (hv b rfl)
    exact va_astq hx hb hK hP hD h2 q0 2 qk 4 hq0 rfl hqk rfl hi hd (fun H1 locs1 hP1 hD1 hS1 => kk H1 locs1 ls ⟨_, hP1, hD1, hWA'⟩ hS1 h3)
  | none => exact va_astqN hx hb hK hP hD h2 q0 2 hq0 rfl hi hd (fun H1 locs1 hP1 hD1 hS1 => kk H1 locs1 ls ⟨_, hP1, hD1, hWA'⟩ hS1 h3)
theorem sj_alen8 {X : sj_X} {M : sj_M} (C : sj_C X M) {S : sj_St} {cl sl : Nat} {L : List (Option Value)} {pc : Nat} {rest : List Value} {a : Nat} (q : Nat) (hq : pc + 1 = q) (hd : decode M.2.1 pc = .ok (.arraylength, 1)) (ha : sj_kd S a = some 8) (kk : sj_G X S cl sl L q (.int (Int32.ofNat (sj_il S a)) :: rest)) : sj_G X S cl sl L pc (.ref a :: rest) := by
  obtain ⟨p, l, e, R, s, m, args, below, meth, c, D, cy, A, nL, Q⟩ := X
  obtain ⟨ym, cc, nL0, ret, fr, lo, mc, ms⟩ := M
  obtain ⟨hx, hb, ⟨hml, hnL⟩, hown, hts, ⟨hlk, hret, hnm⟩, hK, hAm, hA, hRR⟩ := C
  subst hq
  intro H locs ls h1 h2 h3
  have h1' := h1
  obtain ⟨ws, hP, hD, hWA⟩ := h1'
  obtain ⟨q0, hq0⟩ := hWA a 8 ha
  exact va_alen hx hb hK hP q0 0 hq0 rfl rfl hd (kk H locs ls h1 h2 h3)
theorem sj_alen9 {X : sj_X} {M : sj_M} (C : sj_C X M) {S : sj_St} {cl sl : Nat} {L : List (Option Value)} {pc : Nat} {rest : List Value} {a : Nat} (q : Nat) (hq : pc + 1 = q) (hd : decode M.2.1 pc = .ok (.arraylength, 1)) (ha : sj_kd S a = some 9) (kk : sj_G X S cl sl L q (.int (Int32.ofNat (sj_il S a)) :: rest)) : sj_G X S cl sl L pc (.ref a :: rest) := by
  obtain ⟨p, l, e, R, s, m, args, below, meth, c, D, cy, A, nL, Q⟩ := X
  obtain ⟨ym, cc, nL0, ret, fr, lo, mc, ms⟩ := M
  obtain ⟨hx, hb, ⟨hml, hnL⟩, hown, hts, ⟨hlk, hret, hnm⟩, hK, hAm, hA, hRR⟩ := C
  subst hq
  intro H locs ls h1 h2 h3
  have h1' := h1
  obtain ⟨ws, hP, hD, hWA⟩ := h1'
  obtain ⟨q0, hq0⟩ := hWA a 9 ha
  exact va_alen hx hb hK hP q0 1 hq0 rfl rfl hd (kk H locs ls h1 h2 h3)
theorem sj_alen10 {X : sj_X} {M : sj_M} (C : sj_C X M) {S : sj_St} {cl sl : Nat} {L : List (Option Value)} {pc : Nat} {rest : List Value} {a : Nat} (q : Nat) (hq : pc + 1 = q) (hd : decode M.2.1 pc = .ok (.arraylength, 1)) (ha : sj_kd S a = some 10) (kk : sj_G X S cl sl L q (.int (Int32.ofNat (sj_il S a)) :: rest)) : sj_G X S cl sl L pc (.ref a :: rest) := by
  obtain ⟨p, l, e, R, s, m, args, below, meth, c, D, cy, A, nL, Q⟩ := X
  obtain ⟨ym, cc, nL0, ret, fr, lo, mc, ms⟩ := M
  obtain ⟨hx, hb, ⟨hml, hnL⟩, hown, hts, ⟨hlk, hret, hnm⟩, hK, hAm, hA, hRR⟩ := C
  subst hq
  intro H locs ls h1 h2 h3
  have h1' := h1
  obtain ⟨ws, hP, hD, hWA⟩ := h1'
  obtain ⟨q0, hq0⟩ := hWA a 10 ha
  exact va_alen hx hb hK hP q0 2 hq0 rfl rfl hd (kk H locs ls h1 h2 h3)
theorem sj_alen11 {X : sj_X} {M : sj_M} (C : sj_C X M) {S : sj_St} {cl sl : Nat} {L : List (Option Value)} {pc : Nat} {rest : List Value} {a : Nat} (q : Nat) (hq : pc + 1 = q) (hd : decode M.2.1 pc = .ok (.arraylength, 1)) (ha : sj_kd S a = some 11) (kk : sj_G X S cl sl L q (.int (Int32.ofNat (sj_il S a)) :: rest)) : sj_G X S cl sl L pc (.ref a :: rest) := by
  obtain ⟨p, l, e, R, s, m, args, below, meth, c, D, cy, A, nL, Q⟩ := X
  obtain ⟨ym, cc, nL0, ret, fr, lo, mc, ms⟩ := M
  obtain ⟨hx, hb, ⟨hml, hnL⟩, hown, hts, ⟨hlk, hret, hnm⟩, hK, hAm, hA, hRR⟩ := C
  subst hq
  intro H locs ls h1 h2 h3
  have h1' := h1
  obtain ⟨ws, hP, hD, hWA⟩ := h1'
  obtain ⟨q0, hq0⟩ := hWA a 11 ha
  exact va_alen hx hb hK hP q0 3 hq0 rfl rfl hd (kk H locs ls h1 h2 h3)
-- ===== calls =====
theorem sj_goCall {p : Program} {l : Launch} {e : Env} {R : Room} {s : State} {m : MethodId} {args : Array Value} {below : List Frame} {meth : Method} {c : Code} {D : va_G} {cy : Nat → ClassId} {A : Nat → Prop} {Q : State → Prop} {H : Heap} {locs : List Loc} {cl sl mc ms pc : Nat} {ls : Array Slot} {st0 rest : List Value} {Post : Option Value → sj_St → Prop} {a : Array Value}
    (hr : va_Run p l e R s m args below meth c H locs cl sl mc ms (F0 m pc ls st0) rest (sj_Qc D cy A Post a) A) (hS : va_S A s.heap H locs)
    (kk : ∀ (v : Option Value) (S' : sj_St) (H1 : Heap) (locs1 : List Loc), Post v S' → sj_HP D cy A S' H1 → va_S A s.heap H1 locs1 → W p l e R s m args below meth c H1 locs1 (cl + mc) (sl + ms) Q (F0 m (pc + 3) ls (v.toList ++ rest))) : W p l e R s m args below meth c H locs cl sl Q (F0 m pc ls st0) := by
  intro T hT X
  obtain ⟨v, st₀, t, T', L, h0, X', hL, e1, e2, ⟨⟨r, S', hv, hp, hb⟩, hz, hk⟩, st⟩ := hr T hT X
  cases hv
  rw [h0] at hz hk
  obtain ⟨t2, a1, b1⟩ := kk _ S' T'.heap (locs ++ L) hp (by rw [e1]; exact hb)
    ⟨Nat.le_trans hS.1 (by rw [e1]; exact hz), fun q h1 h2 => by rw [e1, hk q (Nat.lt_of_lt_of_le h1 hS.1) h2]; exact hS.2.1 q h1 h2, fun q hq => by
      rcases List.mem_append.mp hq with h | h
      · exact hS.2.2 q h
      · exact hL q h⟩ T' rfl X'
  exact ⟨t2, st t2 a1, b1⟩
theorem sj_inOf {D : va_G} {cy : Nat → ClassId} {A : Nat → Prop} {S : sj_St} {s U : State} {H : Heap} {locs : List Loc} (hK : va_K D vwCl (sj_tys cy) s) (hAm : sj_Am A s s.heap) (hS : va_S A s.heap H locs) (h1 : sj_HP D cy A S H) (hU : U.heap = H) (hW : s.WarmedH U.vm) : sj_In D cy A S H.size U := ⟨by rw [hU], by rw [hU]; exact h1, va_K.moved hW.alike hK, sj_Am_warm hW (by rw [hU]; exact sj_Am_kept hAm hS.2.1)⟩
def sj_is (S : sj_St) (b : Nat) (C : String) : Prop := ∃ (ci : Nat) (r : vw_C), sj_kd S b = some ci ∧ vwCl[ci]? = some r ∧ r.1 = C ∧ ci < 8
theorem sj_recv2 {D : va_G} {cy : Nat → ClassId} {A : Nat → Prop} {S : sj_St} {H : Heap} {s : State} {b : Nat} {C : String} (hK : va_K D vwCl (sj_tys cy) s) (h : sj_HP D cy A S H) (hb : sj_is S b C) : ∃ cell : Cell, H[b]? = some cell ∧ cell.vm.isStatics = false ∧ s.vm.findClass C = some cell.cls := by
  obtain ⟨ci, r, h1, h2, h3, h4⟩ := hb
  rw [← h3]
  exact sj_kd_of hK h h1 h2 h4
theorem sj_callV {X : sj_X} {M N : sj_M} (C : sj_C X M) {S : sj_St} {cl sl : Nat} {L : List (Option Value)} {pc idx n : Nat} {b : Nat} {As st rest : List Value} {Post : Option Value → sj_St → Prop} (q : Nat) (hq : pc + 3 = q) (hd : decode M.2.1 pc = .ok (.invokevirtual idx, 3)) (hV : sj_V M.1.cls idx N n) (hfit : sj_fit M N cl sl = true) (hM : sj_Ctr X.2.1 N (.ref b :: As) S Post) (hst : st = As.reverse ++ .ref b :: rest) (hn : As.length = n) (hcat : Nat.ble (rest.map fun v => v.category).sum 8 = true) (hb8 : sj_is S b N.1.cls) (kk : ∀ (v : Option Value) (S' : sj_St), Post v S' → sj_G X S' (cl + N.2.2.2.2.2.2.1) (sl + N.2.2.2.2.2.2.2) L q (v.toList ++ rest)) : sj_G X S cl sl L pc st := by
  have hF := sj_fit_of hfit
  obtain ⟨p, l, e, R, s, m, args, below, meth, c, D, cy, A, nL, Q⟩ := X
  obtain ⟨ym, cc, nL0, ret, fr, lo, mc, ms⟩ := M
  obtain ⟨hx, hb, ⟨hml, hnL⟩, hown, hts, ⟨hlk, hret, hnm⟩, hK, hAm, hA, hRR⟩ := C
  obtain ⟨y2, cc2, nL2, ret2, fr2, lo2, mc2, ms2⟩ := N
  subst hq
  subst hst
  obtain ⟨hlink, hinst, hsel, hini, hcode, hno, hpar⟩ := hV
  subst hRR
  intro H locs ls h1 h2 h3
  have hM1 := hM D cy A H.size (fun q h => hA q (Nat.le_trans h2.1 h))
  have hG := sj_good y2 cc2 nL2 ret2 hcode
  refine sj_goCall (va_runV (As := As) (rest := rest) ⟨hx, hb, hml, hown, hts⟩ hM1 ⟨(callB_of n hts hG rfl rfl rfl (hts _ hini) (hts _ hlink) ⟨hno.1, hno.2, hpar⟩ ⟨hF.1, hF.2.1⟩), hts _ hinst, hts _ hsel⟩ ⟨sj_blind, sj_recv2 hK h1 hb8, fun U hU hW => ⟨rfl, sj_inOf hK hAm h2 h1 hU hW⟩⟩ rfl hn h3.1 rfl (lv_room (Nat.le_of_ble_eq_true hcat)) hd ⟨hF.2.2.1, hF.2.2.2⟩) h2 (fun v S' H1 locs1 hp hP1 hS1 => kk v S' hp H1 locs1 ls hP1 hS1 h3)
theorem sj_callVN {X : sj_X} {M N : sj_M} (C : sj_C X M) {S : sj_St} {cl sl : Nat} {L : List (Option Value)} {pc idx n : Nat} {b : Nat} {As st rest : List Value} {Post : Option Value → sj_St → Prop} (q : Nat) (hq : pc + 3 = q) (hd : decode M.2.1 pc = .ok (.invokevirtual idx, 3)) (hV : sj_Vn M.1.cls idx N n) (hfit : sj_fit M N cl sl = true) (hM : sj_Ctr X.2.1 N (.ref b :: As) S Post) (hst : st = As.reverse ++ .ref b :: rest) (hn : As.length = n) (hcat : Nat.ble (rest.map fun v => v.category).sum 8 = true) (hb8 : sj_is S b N.1.cls) (kk : ∀ (v : Option Value) (S' : sj_St), Post v S' → sj_G X S' (cl + N.2.2.2.2.2.2.1) (sl + N.2.2.2.2.2.2.2) L q (v.toList ++ rest)) : sj_G X S cl sl L pc st := by
  have hF := sj_fit_of hfit
  obtain ⟨p, l, e, R, s, m, args, below, meth, c, D, cy, A, nL, Q⟩ := X
  obtain ⟨ym, cc, nL0, ret, fr, lo, mc, ms⟩ := M
  obtain ⟨hx, hb, ⟨hml, hnL⟩, hown, hts, ⟨hlk, hret, hnm⟩, hK, hAm, hA, hRR⟩ := C
  obtain ⟨y2, cc2, nL2, ret2, fr2, lo2, mc2, ms2⟩ := N
  subst hq
  subst hst
  obtain ⟨hlink, hinst, hsel, hini, hcode, hno, hpar⟩ := hV
  subst hRR
  intro H locs ls h1 h2 h3
  have hM1 := hM D cy A H.size (fun q h => hA q (Nat.le_trans h2.1 h))
  have hG := sj_good y2 cc2 nL2 ret2 hcode
  refine sj_goCall (va_runVN (As := As) (rest := rest) ⟨hx, hb, hml, hown, hts⟩ hM1 ⟨(va_cnB (host := "SlantOaths") n hts hG rfl rfl rfl (hAm.1 _ hlink) (hts _ hini) ⟨hno.1, hno.2, hpar⟩ ⟨hF.1, hF.2.1⟩), hts _ hinst, hts _ hsel⟩ ⟨sj_blind, sj_recv2 hK h1 hb8, fun U hU hW => ⟨rfl, sj_inOf hK hAm h2 h1 hU hW⟩⟩ rfl hn h3.1 rfl (lv_room (Nat.le_of_ble_eq_true hcat)) hd ⟨hF.2.2.1, hF.2.2.2⟩) h2 (fun v S' H1 locs1 hp hP1 hS1 => kk v S' hp H1 locs1 ls hP1 hS1 h3)
theorem sj_callS {X : sj_X} {M N : sj_M} (C : sj_C X M) {S : sj_St} {cl sl : Nat} {L : List (Option Value)} {pc idx n : Nat} {As st rest : List Value} {Post : Option Value → sj_St → Prop} (q : Nat) (hq : pc + 3 = q) (hd : decode M.2.1 pc = .ok (.invokestatic idx, 3)) (hV : sj_Vs M.1.cls idx N n) (hfit : sj_fit M N cl sl = true) (hM : sj_Ctr X.2.1 N (As) S Post) (hst : st = As.reverse ++ rest) (hn : As.length = n) (hcat : Nat.ble (rest.map fun v => v.category).sum 8 = true) (kk : ∀ (v : Option Value) (S' : sj_St), Post v S' → sj_G X S' (cl + N.2.2.2.2.2.2.1) (sl + N.2.2.2.2.2.2.2) L q (v.toList ++ rest)) : sj_G X S cl sl L pc st := by
  have hF := sj_fit_of hfit
  obtain ⟨p, l, e, R, s, m, args, below, meth, c, D, cy, A, nL, Q⟩ := X
  obtain ⟨ym, cc, nL0, ret, fr, lo, mc, ms⟩ := M
  obtain ⟨hx, hb, ⟨hml, hnL⟩, hown, hts, ⟨hlk, hret, hnm⟩, hK, hAm, hA, hRR⟩ := C
  obtain ⟨y2, cc2, nL2, ret2, fr2, lo2, mc2, ms2⟩ := N
  subst hq
  subst hst
  obtain ⟨hlink, hstat, hini, hcode, hno, hpar⟩ := hV
  subst hRR
  intro H locs ls h1 h2 h3
  have hM1 := hM D cy A H.size (fun q h => hA q (Nat.le_trans h2.1 h))
  have hG := sj_good y2 cc2 nL2 ret2 hcode
  refine sj_goCall (va_runS (As := As) (rest := rest) ⟨hx, hb, hml, hown, hts⟩ hM1 ⟨(callB_of n hts hG rfl rfl rfl (hts _ hini) (hts _ hlink) ⟨hno.1, hno.2, hpar⟩ ⟨hF.1, hF.2.1⟩), hts _ hstat⟩ ⟨sj_blind, fun U hU hW => ⟨rfl, sj_inOf hK hAm h2 h1 hU hW⟩⟩ rfl hn h3.1 rfl (lv_room (Nat.le_of_ble_eq_true hcat)) hd ⟨hF.2.2.1, hF.2.2.2⟩) h2 (fun v S' H1 locs1 hp hP1 hS1 => kk v S' hp H1 locs1 ls hP1 hS1 h3)
theorem sj_callSN {X : sj_X} {M N : sj_M} (C : sj_C X M) {S : sj_St} {cl sl : Nat} {L : List (Option Value)} {pc idx n : Nat} {As st rest : List Value} {Post : Option Value → sj_St → Prop} (q : Nat) (hq : pc + 3 = q) (hd : decode M.2.1 pc = .ok (.invokestatic idx, 3)) (hV : sj_Vsn M.1.cls idx N n) (hfit : sj_fit M N cl sl = true) (hM : sj_Ctr X.2.1 N (As) S Post) (hst : st = As.reverse ++ rest) (hn : As.length = n) (hcat : Nat.ble (rest.map fun v => v.category).sum 8 = true) (kk : ∀ (v : Option Value) (S' : sj_St), Post v S' → sj_G X S' (cl + N.2.2.2.2.2.2.1) (sl + N.2.2.2.2.2.2.2) L q (v.toList ++ rest)) : sj_G X S cl sl L pc st := by
  have hF := sj_fit_of hfit
  obtain ⟨p, l, e, R, s, m, args, below, meth, c, D, cy, A, nL, Q⟩ := X
  obtain ⟨ym, cc, nL0, ret, fr, lo, mc, ms⟩ := M
  obtain ⟨hx, hb, ⟨hml, hnL⟩, hown, hts, ⟨hlk, hret, hnm⟩, hK, hAm, hA, hRR⟩ := C
  obtain ⟨y2, cc2, nL2, ret2, fr2, lo2, mc2, ms2⟩ := N
  subst hq
  subst hst
  obtain ⟨hlink, hstat, hini, hcode, hno, hpar⟩ := hV
  subst hRR
  intro H locs ls h1 h2 h3
  have hM1 := hM D cy A H.size (fun q h => hA q (Nat.le_trans h2.1 h))
  have hG := sj_good y2 cc2 nL2 ret2 hcode
  refine sj_goCall (va_runSN (As := As) (rest := rest) ⟨hx, hb, hml, hown, hts⟩ hM1 ⟨(va_cnB (host := "SlantOaths") n hts hG rfl rfl rfl (hAm.1 _ hlink) (hts _ hini) ⟨hno.1, hno.2, hpar⟩ ⟨hF.1, hF.2.1⟩), hts _ hstat, trivial⟩ ⟨sj_blind, fun U hU hW => ⟨rfl, sj_inOf hK hAm h2 h1 hU hW⟩⟩ rfl hn h3.1 rfl (lv_room (Nat.le_of_ble_eq_true hcat)) hd ⟨hF.2.2.1, hF.2.2.2⟩) h2 (fun v S' H1 locs1 hp hP1 hS1 => kk v S' hp H1 locs1 ls hP1 hS1 h3)
theorem sj_callI {X : sj_X} {M N : sj_M} (C : sj_C X M) {S : sj_St} {cl sl : Nat} {L : List (Option Value)} {pc idx n : Nat} {b : Nat} {As st rest : List Value} {Post : Option Value → sj_St → Prop} (q : Nat) (hq : pc + 3 = q) (hd : decode M.2.1 pc = .ok (.invokespecial idx, 3)) (hV : sj_Vi M.1.cls idx N n) (hfit : sj_fit M N cl sl = true) (hM : sj_Ctr X.2.1 N (.ref b :: As) S Post) (hst : st = As.reverse ++ .ref b :: rest) (hn : As.length = n) (hcat : Nat.ble (rest.map fun v => v.category).sum 8 = true) (hini1 : N.1.name = "<init>") (hret1 : N.2.2.2.1 = none) (kk : ∀ (v : Option Value) (S' : sj_St), Post v S' → sj_G X S' (cl + N.2.2.2.2.2.2.1) (sl + N.2.2.2.2.2.2.2) L q (v.toList ++ rest)) : sj_G X S cl sl L pc st := by
  have hF := sj_fit_of hfit
  obtain ⟨p, l, e, R, s, m, args, below, meth, c, D, cy, A, nL, Q⟩ := X
  obtain ⟨ym, cc, nL0, ret, fr, lo, mc, ms⟩ := M
  obtain ⟨hx, hb, ⟨hml, hnL⟩, hown, hts, ⟨hlk, hret, hnm⟩, hK, hAm, hA, hRR⟩ := C
  obtain ⟨y2, cc2, nL2, ret2, fr2, lo2, mc2, ms2⟩ := N
  subst hq
  dsimp only at hret1
  subst hret1
  subst hst
  obtain ⟨hlink, hinst, hini, hcode, hno, hpar⟩ := hV
  subst hRR
  intro H locs ls h1 h2 h3
  have hM1 := hM D cy A H.size (fun q h => hA q (Nat.le_trans h2.1 h))
  have hG := sj_good y2 cc2 nL2 none hcode
  refine sj_goCall (va_runI (As := As) (rest := rest) ⟨hx, hb, hml, hown, hts⟩ hM1 ⟨(callB_of n hts hG rfl rfl rfl (hts _ hini) (hts _ hlink) ⟨hno.1, hno.2, hpar⟩ ⟨hF.1, hF.2.1⟩), hini1, hts _ hinst⟩ ⟨sj_blind, fun U hU hW => ⟨rfl, sj_inOf hK hAm h2 h1 hU hW⟩⟩ rfl hn h3.1 rfl (lv_room (Nat.le_of_ble_eq_true hcat)) hd ⟨hF.2.2.1, hF.2.2.2⟩) h2 (fun v S' H1 locs1 hp hP1 hS1 => kk v S' hp H1 locs1 ls hP1 hS1 h3)
theorem sj_callIN {X : sj_X} {M N : sj_M} (C : sj_C X M) {S : sj_St} {cl sl : Nat} {L : List (Option Value)} {pc idx n : Nat} {b : Nat} {As st rest : List Value} {Post : Option Value → sj_St → Prop} (q : Nat) (hq : pc + 3 = q) (hd : decode M.2.1 pc = .ok (.invokespecial idx, 3)) (hV : sj_Vin M.1.cls idx N n) (hfit : sj_fit M N cl sl = true) (hM : sj_Ctr X.2.1 N (.ref b :: As) S Post) (hst : st = As.reverse ++ .ref b :: rest) (hn : As.length = n) (hcat : Nat.ble (rest.map fun v => v.category).sum 8 = true) (hini1 : N.1.name = "<init>") (hret1 : N.2.2.2.1 = none) (kk : ∀ (v : Option Value) (S' : sj_St), Post v S' → sj_G X S' (cl + N.2.2.2.2.2.2.1) (sl + N.2.2.2.2.2.2.2) L q (v.toList ++ rest)) : sj_G X S cl sl L pc st := by
  have hF := sj_fit_of hfit
  obtain ⟨p, l, e, R, s, m, args, below, meth, c, D, cy, A, nL, Q⟩ := X
  obtain ⟨ym, cc, nL0, ret, fr, lo, mc, ms⟩ := M
  obtain ⟨hx, hb, ⟨hml, hnL⟩, hown, hts, ⟨hlk, hret, hnm⟩, hK, hAm, hA, hRR⟩ := C
  obtain ⟨y2, cc2, nL2, ret2, fr2, lo2, mc2, ms2⟩ := N
  subst hq
  dsimp only at hret1
  subst hret1
  subst hst
  obtain ⟨hlink, hinst, hini, hcode, hno, hpar⟩ := hV
  subst hRR
  intro H locs ls h1 h2 h3
  have hM1 := hM D cy A H.size (fun q h => hA q (Nat.le_trans h2.1 h))
  have hG := sj_good y2 cc2 nL2 none hcode
  refine sj_goCall (va_runIN (As := As) (rest := rest) ⟨hx, hb, hml, hown, hts⟩ hM1 ⟨(va_cnB (host := "SlantOaths") n hts hG rfl rfl rfl (hAm.1 _ hlink) (hts _ hini) ⟨hno.1, hno.2, hpar⟩ ⟨hF.1, hF.2.1⟩), hini1, hts _ hinst⟩ ⟨sj_blind, fun U hU hW => ⟨rfl, sj_inOf hK hAm h2 h1 hU hW⟩⟩ rfl hn h3.1 rfl (lv_room (Nat.le_of_ble_eq_true hcat)) hd ⟨hF.2.2.1, hF.2.2.2⟩) h2 (fun v S' H1 locs1 hp hP1 hS1 => kk v S' hp H1 locs1 ls hP1 hS1 h3)
-- ===== answers that are one value over one state =====
def sj_eq (r : Option Value) (S2 : sj_St) : Option Value → sj_St → Prop := fun v S' => v = r ∧ S' = S2
theorem sj_iret {X : sj_X} {M : sj_M} (C : sj_C X M) {S : sj_St} {cl sl : Nat} {L : List (Option Value)} {pc : Nat} {Post : Option Value → sj_St → Prop} {v : Int32} (hR : sj_R X M Post) (hret9 : M.2.2.2.1 = some .int) (hfit : (Nat.ble cl M.2.2.2.2.2.2.1 && Nat.ble sl M.2.2.2.2.2.2.2) = true) (hd : decode M.2.1 pc = .ok (.ireturn, 1)) (hp : Post (some (.int v)) S) : sj_G X S cl sl L pc [.int v] := by
  obtain ⟨p, l, e, R, s, m, args, below, meth, c, D, cy, A, nL, Q⟩ := X
  obtain ⟨ym, cc, nL0, ret, fr, lo, mc, ms⟩ := M
  obtain ⟨hx, hb, ⟨hml, hnL⟩, hown, hts, ⟨hlk, hret, hnm⟩, hK, hAm, hA, hRR⟩ := C
  intro H locs ls h1 h2 h3
  dsimp only at hret9 hfit
  subst hret9
  rw [Bool.and_eq_true] at hfit
  have hR' : Q = MQ below (sj_Qc D cy A Post) args s mc ms A := hR
  subst hR'
  refine W.widen (k := mc) (n := ms) (Nat.le_of_ble_eq_true hfit.1) (Nat.le_of_ble_eq_true hfit.2) ?_
  exact W.iret hx hb hret (fun t ht hW => ⟨⟨_, S, rfl, hp, by rw [ht]; exact h1⟩, h2.F ht⟩) h2.2.2 hd hlk
theorem sj_lret {X : sj_X} {M : sj_M} (C : sj_C X M) {S : sj_St} {cl sl : Nat} {L : List (Option Value)} {pc : Nat} {Post : Option Value → sj_St → Prop} {v : Int64} (hR : sj_R X M Post) (hret9 : M.2.2.2.1 = some .long) (hfit : (Nat.ble cl M.2.2.2.2.2.2.1 && Nat.ble sl M.2.2.2.2.2.2.2) = true) (hd : decode M.2.1 pc = .ok (.lreturn, 1)) (hp : Post (some (.long v)) S) : sj_G X S cl sl L pc [.long v] := by
  obtain ⟨p, l, e, R, s, m, args, below, meth, c, D, cy, A, nL, Q⟩ := X
  obtain ⟨ym, cc, nL0, ret, fr, lo, mc, ms⟩ := M
  obtain ⟨hx, hb, ⟨hml, hnL⟩, hown, hts, ⟨hlk, hret, hnm⟩, hK, hAm, hA, hRR⟩ := C
  intro H locs ls h1 h2 h3
  dsimp only at hret9 hfit
  subst hret9
  rw [Bool.and_eq_true] at hfit
  have hR' : Q = MQ below (sj_Qc D cy A Post) args s mc ms A := hR
  subst hR'
  refine W.widen (k := mc) (n := ms) (Nat.le_of_ble_eq_true hfit.1) (Nat.le_of_ble_eq_true hfit.2) ?_
  exact W.lret hx hb hret (fun t ht hW => ⟨⟨_, S, rfl, hp, by rw [ht]; exact h1⟩, h2.F ht⟩) h2.2.2 hd hlk
theorem sj_dret {X : sj_X} {M : sj_M} (C : sj_C X M) {S : sj_St} {cl sl : Nat} {L : List (Option Value)} {pc : Nat} {Post : Option Value → sj_St → Prop} {v : UInt64} (hR : sj_R X M Post) (hret9 : M.2.2.2.1 = some .double) (hfit : (Nat.ble cl M.2.2.2.2.2.2.1 && Nat.ble sl M.2.2.2.2.2.2.2) = true) (hd : decode M.2.1 pc = .ok (.dreturn, 1)) (hp : Post (some (.double v)) S) : sj_G X S cl sl L pc [.double v] := by
  obtain ⟨p, l, e, R, s, m, args, below, meth, c, D, cy, A, nL, Q⟩ := X
  obtain ⟨ym, cc, nL0, ret, fr, lo, mc, ms⟩ := M
  obtain ⟨hx, hb, ⟨hml, hnL⟩, hown, hts, ⟨hlk, hret, hnm⟩, hK, hAm, hA, hRR⟩ := C
  intro H locs ls h1 h2 h3
  dsimp only at hret9 hfit
  subst hret9
  rw [Bool.and_eq_true] at hfit
  have hR' : Q = MQ below (sj_Qc D cy A Post) args s mc ms A := hR
  subst hR'
  refine W.widen (k := mc) (n := ms) (Nat.le_of_ble_eq_true hfit.1) (Nat.le_of_ble_eq_true hfit.2) ?_
  exact W.dret hx hb hret (fun t ht hW => ⟨⟨_, S, rfl, hp, by rw [ht]; exact h1⟩, h2.F ht⟩) h2.2.2 hd hlk
theorem sj_zret {X : sj_X} {M : sj_M} (C : sj_C X M) {S : sj_St} {cl sl : Nat} {L : List (Option Value)} {pc : Nat} {Post : Option Value → sj_St → Prop} {v : Int32} (hR : sj_R X M Post) (hret9 : M.2.2.2.1 = some .boolean) (hv : narrow .boolean (.int v) = .int v) (hfit : (Nat.ble cl M.2.2.2.2.2.2.1 && Nat.ble sl M.2.2.2.2.2.2.2) = true) (hd : decode M.2.1 pc = .ok (.ireturn, 1)) (hp : Post (some (.int v)) S) : sj_G X S cl sl L pc [.int v] := by
  obtain ⟨p, l, e, R, s, m, args, below, meth, c, D, cy, A, nL, Q⟩ := X
  obtain ⟨ym, cc, nL0, ret, fr, lo, mc, ms⟩ := M
  obtain ⟨hx, hb, ⟨hml, hnL⟩, hown, hts, ⟨hlk, hret, hnm⟩, hK, hAm, hA, hRR⟩ := C
  intro H locs ls h1 h2 h3
  dsimp only at hret9 hfit
  subst hret9
  rw [Bool.and_eq_true] at hfit
  have hR' : Q = MQ below (sj_Qc D cy A Post) args s mc ms A := hR
  subst hR'
  refine W.widen (k := mc) (n := ms) (Nat.le_of_ble_eq_true hfit.1) (Nat.le_of_ble_eq_true hfit.2) ?_
  exact W.zret hx hb hret hv (fun t ht hW => ⟨⟨_, S, rfl, hp, by rw [ht]; exact h1⟩, h2.F ht⟩) h2.2.2 hd hlk
theorem sj_vret {X : sj_X} {M : sj_M} (C : sj_C X M) {S : sj_St} {cl sl : Nat} {L : List (Option Value)} {pc : Nat} {Post : Option Value → sj_St → Prop} (hR : sj_R X M Post) (hret9 : M.2.2.2.1 = none) (hfit : (Nat.ble cl M.2.2.2.2.2.2.1 && Nat.ble sl M.2.2.2.2.2.2.2) = true) (hd : decode M.2.1 pc = .ok (.return_, 1)) (hp : Post none S) : sj_G X S cl sl L pc [] := by
  obtain ⟨p, l, e, R, s, m, args, below, meth, c, D, cy, A, nL, Q⟩ := X
  obtain ⟨ym, cc, nL0, ret, fr, lo, mc, ms⟩ := M
  obtain ⟨hx, hb, ⟨hml, hnL⟩, hown, hts, ⟨hlk, hret, hnm⟩, hK, hAm, hA, hRR⟩ := C
  intro H locs ls h1 h2 h3
  dsimp only at hret9 hfit
  subst hret9
  rw [Bool.and_eq_true] at hfit
  have hR' : Q = MQ below (sj_Qc D cy A Post) args s mc ms A := hR
  subst hR'
  refine W.widen (k := mc) (n := ms) (Nat.le_of_ble_eq_true hfit.1) (Nat.le_of_ble_eq_true hfit.2) ?_
  exact W.vret hx hb hret (fun t ht hW => ⟨⟨_, S, rfl, hp, by rw [ht]; exact h1⟩, h2.F ht⟩) h2.2.2 hd hlk
theorem sj_aret {X : sj_X} {M : sj_M} (C : sj_C X M) {S : sj_St} {cl sl : Nat} {L : List (Option Value)} {pc : Nat} {Post : Option Value → sj_St → Prop} {o : Option Nat} {rt : FieldType} (hR : sj_R X M Post) (hret9 : M.2.2.2.1 = some rt) (hrt : (∃ n, rt = .object n) ∨ ∃ t, rt = .array t) (hfit : (Nat.ble cl M.2.2.2.2.2.2.1 && Nat.ble sl M.2.2.2.2.2.2.2) = true) (hd : decode M.2.1 pc = .ok (.areturn, 1)) (hp : Post (some (va_rf o)) S) : sj_G X S cl sl L pc [va_rf o] := by
  obtain ⟨p, l, e, R, s, m, args, below, meth, c, D, cy, A, nL, Q⟩ := X
  obtain ⟨ym, cc, nL0, ret, fr, lo, mc, ms⟩ := M
  obtain ⟨hx, hb, ⟨hml, hnL⟩, hown, hts, ⟨hlk, hret, hnm⟩, hK, hAm, hA, hRR⟩ := C
  intro H locs ls h1 h2 h3
  dsimp only at hret9 hfit
  subst hret9
  rw [Bool.and_eq_true] at hfit
  have hR' : Q = MQ below (sj_Qc D cy A Post) args s mc ms A := hR
  subst hR'
  refine W.widen (k := mc) (n := ms) (Nat.le_of_ble_eq_true hfit.1) (Nat.le_of_ble_eq_true hfit.2) ?_
  exact W.aret hx hb hret hrt (by cases o with | none => exact Or.inl rfl | some a => exact Or.inr ⟨a, rfl⟩) (fun t ht hW => ⟨⟨_, S, rfl, hp, by rw [ht]; exact h1⟩, h2.F ht⟩) h2.2.2 hd hlk
theorem sj_callVd {X : sj_X} {M N : sj_M} (C : sj_C X M) {S S2 : sj_St} {cl sl : Nat} {L : List (Option Value)} {pc idx n : Nat} {b : Nat} {r : Value} {As st rest : List Value} (q : Nat) (hq : pc + 3 = q) (hd : decode M.2.1 pc = .ok (.invokevirtual idx, 3)) (hV : sj_V M.1.cls idx N n) (hfit : sj_fit M N cl sl = true) (hM : sj_Ctr X.2.1 N (.ref b :: As) S (sj_eq (some r) S2)) (hst : st = As.reverse ++ .ref b :: rest) (hn : As.length = n) (hcat : Nat.ble (rest.map fun v => v.category).sum 8 = true) (hb8 : sj_is S b N.1.cls) (h00 : N.2.2.2.2.2.2.1 = 0 ∧ N.2.2.2.2.2.2.2 = 0) (kk : sj_G X S2 cl sl L q (r :: rest)) : sj_G X S cl sl L pc st := by
  refine sj_callV C q hq hd hV hfit hM hst hn hcat hb8 (fun v S' hp => ?_)
  obtain ⟨rfl, rfl⟩ := hp
  rw [h00.1, h00.2]
  exact kk
theorem sj_callVv {X : sj_X} {M N : sj_M} (C : sj_C X M) {S S2 : sj_St} {cl sl : Nat} {L : List (Option Value)} {pc idx n : Nat} {b : Nat} {As st rest : List Value} (q : Nat) (hq : pc + 3 = q) (hd : decode M.2.1 pc = .ok (.invokevirtual idx, 3)) (hV : sj_V M.1.cls idx N n) (hfit : sj_fit M N cl sl = true) (hM : sj_Ctr X.2.1 N (.ref b :: As) S (sj_eq none S2)) (hst : st = As.reverse ++ .ref b :: rest) (hn : As.length = n) (hcat : Nat.ble (rest.map fun v => v.category).sum 8 = true) (hb8 : sj_is S b N.1.cls) (h00 : N.2.2.2.2.2.2.1 = 0 ∧ N.2.2.2.2.2.2.2 = 0) (kk : sj_G X S2 cl sl L q (rest)) : sj_G X S cl sl L pc st := by
  refine sj_callV C q hq hd hV hfit hM hst hn hcat hb8 (fun v S' hp => ?_)
  obtain ⟨rfl, rfl⟩ := hp
  rw [h00.1, h00.2]
  exact kk
theorem sj_callVNd {X : sj_X} {M N : sj_M} (C : sj_C X M) {S S2 : sj_St} {cl sl : Nat} {L : List (Option Value)} {pc idx n : Nat} {b : Nat} {r : Value} {As st rest : List Value} (q : Nat) (hq : pc + 3 = q) (hd : decode M.2.1 pc = .ok (.invokevirtual idx, 3)) (hV : sj_Vn M.1.cls idx N n) (hfit : sj_fit M N cl sl = true) (hM : sj_Ctr X.2.1 N (.ref b :: As) S (sj_eq (some r) S2)) (hst : st = As.reverse ++ .ref b :: rest) (hn : As.length = n) (hcat : Nat.ble (rest.map fun v => v.category).sum 8 = true) (hb8 : sj_is S b N.1.cls) (h00 : N.2.2.2.2.2.2.1 = 0 ∧ N.2.2.2.2.2.2.2 = 0) (kk : sj_G X S2 cl sl L q (r :: rest)) : sj_G X S cl sl L pc st := by
  refine sj_callVN C q hq hd hV hfit hM hst hn hcat hb8 (fun v S' hp => ?_)
  obtain ⟨rfl, rfl⟩ := hp
  rw [h00.1, h00.2]
  exact kk
theorem sj_callVNv {X : sj_X} {M N : sj_M} (C : sj_C X M) {S S2 : sj_St} {cl sl : Nat} {L : List (Option Value)} {pc idx n : Nat} {b : Nat} {As st rest : List Value} (q : Nat) (hq : pc + 3 = q) (hd : decode M.2.1 pc = .ok (.invokevirtual idx, 3)) (hV : sj_Vn M.1.cls idx N n) (hfit : sj_fit M N cl sl = true) (hM : sj_Ctr X.2.1 N (.ref b :: As) S (sj_eq none S2)) (hst : st = As.reverse ++ .ref b :: rest) (hn : As.length = n) (hcat : Nat.ble (rest.map fun v => v.category).sum 8 = true) (hb8 : sj_is S b N.1.cls) (h00 : N.2.2.2.2.2.2.1 = 0 ∧ N.2.2.2.2.2.2.2 = 0) (kk : sj_G X S2 cl sl L q (rest)) : sj_G X S cl sl L pc st := by
  refine sj_callVN C q hq hd hV hfit hM hst hn hcat hb8 (fun v S' hp => ?_)
  obtain ⟨rfl, rfl⟩ := hp
  rw [h00.1, h00.2]
  exact kk
theorem sj_callSd {X : sj_X} {M N : sj_M} (C : sj_C X M) {S S2 : sj_St} {cl sl : Nat} {L : List (Option Value)} {pc idx n : Nat} {r : Value} {As st rest : List Value} (q : Nat) (hq : pc + 3 = q) (hd : decode M.2.1 pc = .ok (.invokestatic idx, 3)) (hV : sj_Vs M.1.cls idx N n) (hfit : sj_fit M N cl sl = true) (hM : sj_Ctr X.2.1 N (As) S (sj_eq (some r) S2)) (hst : st = As.reverse ++ rest) (hn : As.length = n) (hcat : Nat.ble (rest.map fun v => v.category).sum 8 = true) (h00 : N.2.2.2.2.2.2.1 = 0 ∧ N.2.2.2.2.2.2.2 = 0) (kk : sj_G X S2 cl sl L q (r :: rest)) : sj_G X S cl sl L pc st := by
  refine sj_callS C q hq hd hV hfit hM hst hn hcat (fun v S' hp => ?_)
  obtain ⟨rfl, rfl⟩ := hp
  rw [h00.1, h00.2]
  exact kk
theorem sj_callSv {X : sj_X} {M N : sj_M} (C : sj_C X M) {S S2 : sj_St} {cl sl : Nat} {L : List (Option Value)} {pc idx n : Nat} {As st rest : List Value} (q : Nat) (hq : pc + 3 = q) (hd : decode M.2.1 pc = .ok (.invokestatic idx, 3)) (hV : sj_Vs M.1.cls idx N n) (hfit : sj_fit M N cl sl = true) (hM : sj_Ctr X.2.1 N (As) S (sj_eq none S2)) (hst : st = As.reverse ++ rest) (hn : As.length = n) (hcat : Nat.ble (rest.map fun v => v.category).sum 8 = true) (h00 : N.2.2.2.2.2.2.1 = 0 ∧ N.2.2.2.2.2.2.2 = 0) (kk : sj_G X S2 cl sl L q (rest)) : sj_G X S cl sl L pc st := by
  refine sj_callS C q hq hd hV hfit hM hst hn hcat (fun v S' hp => ?_)
  obtain ⟨rfl, rfl⟩ := hp
  rw [h00.1, h00.2]
  exact kk
theorem sj_callSNd {X : sj_X} {M N : sj_M} (C : sj_C X M) {S S2 : sj_St} {cl sl : Nat} {L : List (Option Value)} {pc idx n : Nat} {r : Value} {As st rest : List Value} (q : Nat) (hq : pc + 3 = q) (hd : decode M.2.1 pc = .ok (.invokestatic idx, 3)) (hV : sj_Vsn M.1.cls idx N n) (hfit : sj_fit M N cl sl = true) (hM : sj_Ctr X.2.1 N (As) S (sj_eq (some r) S2)) (hst : st = As.reverse ++ rest) (hn : As.length = n) (hcat : Nat.ble (rest.map fun v => v.category).sum 8 = true) (h00 : N.2.2.2.2.2.2.1 = 0 ∧ N.2.2.2.2.2.2.2 = 0) (kk : sj_G X S2 cl sl L q (r :: rest)) : sj_G X S cl sl L pc st := by
  refine sj_callSN C q hq hd hV hfit hM hst hn hcat (fun v S' hp => ?_)
  obtain ⟨rfl, rfl⟩ := hp
  rw [h00.1, h00.2]
  exact kk
theorem sj_callSNv {X : sj_X} {M N : sj_M} (C : sj_C X M) {S S2 : sj_St} {cl sl : Nat} {L : List (Option Value)} {pc idx n : Nat} {As st rest : List Value} (q : Nat) (hq : pc + 3 = q) (hd : decode M.2.1 pc = .ok (.invokestatic idx, 3)) (hV : sj_Vsn M.1.cls idx N n) (hfit : sj_fit M N cl sl = true) (hM : sj_Ctr X.2.1 N (As) S (sj_eq none S2)) (hst : st = As.reverse ++ rest) (hn : As.length = n) (hcat : Nat.ble (rest.map fun v => v.category).sum 8 = true) (h00 : N.2.2.2.2.2.2.1 = 0 ∧ N.2.2.2.2.2.2.2 = 0) (kk : sj_G X S2 cl sl L q (rest)) : sj_G X S cl sl L pc st := by
  refine sj_callSN C q hq hd hV hfit hM hst hn hcat (fun v S' hp => ?_)
  obtain ⟨rfl, rfl⟩ := hp
  rw [h00.1, h00.2]
  exact kk
theorem sj_callId {X : sj_X} {M N : sj_M} (C : sj_C X M) {S S2 : sj_St} {cl sl : Nat} {L : List (Option Value)} {pc idx n : Nat} {b : Nat} {r : Value} {As st rest : List Value} (q : Nat) (hq : pc + 3 = q) (hd : decode M.2.1 pc = .ok (.invokespecial idx, 3)) (hV : sj_Vi M.1.cls idx N n) (hfit : sj_fit M N cl sl = true) (hM : sj_Ctr X.2.1 N (.ref b :: As) S (sj_eq (some r) S2)) (hst : st = As.reverse ++ .ref b :: rest) (hn : As.length = n) (hcat : Nat.ble (rest.map fun v => v.category).sum 8 = true) (hini1 : N.1.name = "<init>") (hret1 : N.2.2.2.1 = none) (h00 : N.2.2.2.2.2.2.1 = 0 ∧ N.2.2.2.2.2.2.2 = 0) (kk : sj_G X S2 cl sl L q (r :: rest)) : sj_G X S cl sl L pc st := by
  refine sj_callI C q hq hd hV hfit hM hst hn hcat hini1 hret1 (fun v S' hp => ?_)
  obtain ⟨rfl, rfl⟩ := hp
  rw [h00.1, h00.2]
  exact kk
theorem sj_callIv {X : sj_X} {M N : sj_M} (C : sj_C X M) {S S2 : sj_St} {cl sl : Nat} {L : List (Option Value)} {pc idx n : Nat} {b : Nat} {As st rest : List Value} (q : Nat) (hq : pc + 3 = q) (hd : decode M.2.1 pc = .ok (.invokespecial idx, 3)) (hV : sj_Vi M.1.cls idx N n) (hfit : sj_fit M N cl sl = true) (hM : sj_Ctr X.2.1 N (.ref b :: As) S (sj_eq none S2)) (hst : st = As.reverse ++ .ref b :: rest) (hn : As.length = n) (hcat : Nat.ble (rest.map fun v => v.category).sum 8 = true) (hini1 : N.1.name = "<init>") (hret1 : N.2.2.2.1 = none) (h00 : N.2.2.2.2.2.2.1 = 0 ∧ N.2.2.2.2.2.2.2 = 0) (kk : sj_G X S2 cl sl L q (rest)) : sj_G X S cl sl L pc st := by
  refine sj_callI C q hq hd hV hfit hM hst hn hcat hini1 hret1 (fun v S' hp => ?_)
  obtain ⟨rfl, rfl⟩ := hp
  rw [h00.1, h00.2]
  exact kk
theorem sj_callINd {X : sj_X} {M N : sj_M} (C : sj_C X M) {S S2 : sj_St} {cl sl : Nat} {L : List (Option Value)} {pc idx n : Nat} {b : Nat} {r : Value} {As st rest : List Value} (q : Nat) (hq : pc + 3 = q) (hd : decode M.2.1 pc = .ok (.invokespecial idx, 3)) (hV : sj_Vin M.1.cls idx N n) (hfit : sj_fit M N cl sl = true) (hM : sj_Ctr X.2.1 N (.ref b :: As) S (sj_eq (some r) S2)) (hst : st = As.reverse ++ .ref b :: rest) (hn : As.length = n) (hcat : Nat.ble (rest.map fun v => v.category).sum 8 = true) (hini1 : N.1.name = "<init>") (hret1 : N.2.2.2.1 = none) (h00 : N.2.2.2.2.2.2.1 = 0 ∧ N.2.2.2.2.2.2.2 = 0) (kk : sj_G X S2 cl sl L q (r :: rest)) : sj_G X S cl sl L pc st := by
  refine sj_callIN C q hq hd hV hfit hM hst hn hcat hini1 hret1 (fun v S' hp => ?_)
  obtain ⟨rfl, rfl⟩ := hp
  rw [h00.1, h00.2]
  exact kk
theorem sj_callINv {X : sj_X} {M N : sj_M} (C : sj_C X M) {S S2 : sj_St} {cl sl : Nat} {L : List (Option Value)} {pc idx n : Nat} {b : Nat} {As st rest : List Value} (q : Nat) (hq : pc + 3 = q) (hd : decode M.2.1 pc = .ok (.invokespecial idx, 3)) (hV : sj_Vin M.1.cls idx N n) (hfit : sj_fit M N cl sl = true) (hM : sj_Ctr X.2.1 N (.ref b :: As) S (sj_eq none S2)) (hst : st = As.reverse ++ .ref b :: rest) (hn : As.length = n) (hcat : Nat.ble (rest.map fun v => v.category).sum 8 = true) (hini1 : N.1.name = "<init>") (hret1 : N.2.2.2.1 = none) (h00 : N.2.2.2.2.2.2.1 = 0 ∧ N.2.2.2.2.2.2.2 = 0) (kk : sj_G X S2 cl sl L q (rest)) : sj_G X S cl sl L pc st := by
  refine sj_callIN C q hq hd hV hfit hM hst hn hcat hini1 hret1 (fun v S' hp => ?_)
  obtain ⟨rfl, rfl⟩ := hp
  rw [h00.1, h00.2]
  exact kk
theorem sj_mmax {X : sj_X} {M : sj_M} (C : sj_C X M) {S : sj_St} {cl sl : Nat} {L : List (Option Value)} {pc : Nat} {rest : List Value} {x y : Int32} {idx : Nat} (q : Nat) (hq : pc + 3 = q) (hd : decode M.2.1 pc = .ok (.invokestatic idx, 3)) (hV : Cond.methodLink M.1.cls idx Lib.Math.max.name ∈ sj_GT ∧ Cond.static Lib.Math.max.name ∈ sj_GT ∧ Cond.initialized "java/lang/Math" ∈ sj_GT ∧ Cond.code Lib.Math.max.name Lib.Math.max.code 2 (some .int) ∈ sj_GT) (hfit : (Nat.ble 1 M.2.2.2.2.1 && (Nat.ble ((rest.map fun v => v.category).sum + 13) M.2.2.2.2.2.1 && (Nat.ble cl M.2.2.2.2.2.2.1 && Nat.ble sl M.2.2.2.2.2.2.2))) = true) (kk : sj_G X S cl sl L q (.int (if x < y then y else x) :: rest)) : sj_G X S cl sl L pc (.int y :: .int x :: rest) := by
  obtain ⟨p, l, e, R, s, m, args, below, meth, c, D, cy, A, nL, Q⟩ := X
  obtain ⟨ym, cc, nL0, ret, fr, lo, mc, ms⟩ := M
  obtain ⟨hx, hb, ⟨hml, hnL⟩, hown, hts, ⟨hlk, hret, hnm⟩, hK, hAm, hA, hRR⟩ := C
  subst hq
  subst hRR
  intro H locs ls h1 h2 h3
  simp only [Bool.and_eq_true] at hfit
  exact va_mmax hx hb (hml.trans h3.1.symm) hown (hts _ hV.1) (hts _ hV.2.1) (hts _ hV.2.2.1) (hts _ hV.2.2.2) (Nat.le_of_ble_eq_true hfit.1) (Nat.le_of_ble_eq_true hfit.2.1) (Nat.le_of_ble_eq_true hfit.2.2.1) (Nat.le_of_ble_eq_true hfit.2.2.2) hd (kk H locs ls h1 h2 h3)
theorem sj_mmin {X : sj_X} {M : sj_M} (C : sj_C X M) {S : sj_St} {cl sl : Nat} {L : List (Option Value)} {pc : Nat} {rest : List Value} {x y : Int32} {idx : Nat} (q : Nat) (hq : pc + 3 = q) (hd : decode M.2.1 pc = .ok (.invokestatic idx, 3)) (hV : Cond.methodLink M.1.cls idx Lib.Math.min.name ∈ sj_GT ∧ Cond.static Lib.Math.min.name ∈ sj_GT ∧ Cond.initialized "java/lang/Math" ∈ sj_GT ∧ Cond.code Lib.Math.min.name Lib.Math.min.code 2 (some .int) ∈ sj_GT) (hfit : (Nat.ble 1 M.2.2.2.2.1 && (Nat.ble ((rest.map fun v => v.category).sum + 13) M.2.2.2.2.2.1 && (Nat.ble cl M.2.2.2.2.2.2.1 && Nat.ble sl M.2.2.2.2.2.2.2))) = true) (kk : sj_G X S cl sl L q (.int (if y < x then y else x) :: rest)) : sj_G X S cl sl L pc (.int y :: .int x :: rest) := by
  obtain ⟨p, l, e, R, s, m, args, below, meth, c, D, cy, A, nL, Q⟩ := X
  obtain ⟨ym, cc, nL0, ret, fr, lo, mc, ms⟩ := M
  obtain ⟨hx, hb, ⟨hml, hnL⟩, hown, hts, ⟨hlk, hret, hnm⟩, hK, hAm, hA, hRR⟩ := C
  subst hq
  subst hRR
  intro H locs ls h1 h2 h3
  simp only [Bool.and_eq_true] at hfit
  exact va_mmin hx hb (hml.trans h3.1.symm) hown (hts _ hV.1) (hts _ hV.2.1) (hts _ hV.2.2.1) (hts _ hV.2.2.2) (Nat.le_of_ble_eq_true hfit.1) (Nat.le_of_ble_eq_true hfit.2.1) (Nat.le_of_ble_eq_true hfit.2.2.1) (Nat.le_of_ble_eq_true hfit.2.2.2) hd (kk H locs ls h1 h2 h3)
theorem sj_mabs {X : sj_X} {M : sj_M} (C : sj_C X M) {S : sj_St} {cl sl : Nat} {L : List (Option Value)} {pc : Nat} {rest : List Value} {x : Int32} {idx : Nat} (q : Nat) (hq : pc + 3 = q) (hd : decode M.2.1 pc = .ok (.invokestatic idx, 3)) (hV : Cond.methodLink M.1.cls idx Lib.Math.abs.name ∈ sj_GT ∧ Cond.static Lib.Math.abs.name ∈ sj_GT ∧ Cond.initialized "java/lang/Math" ∈ sj_GT ∧ Cond.code Lib.Math.abs.name Lib.Math.abs.code 1 (some .int) ∈ sj_GT) (hfit : (Nat.ble 1 M.2.2.2.2.1 && (Nat.ble ((rest.map fun v => v.category).sum + 13) M.2.2.2.2.2.1 && (Nat.ble cl M.2.2.2.2.2.2.1 && Nat.ble sl M.2.2.2.2.2.2.2))) = true) (kk : sj_G X S cl sl L q (.int (if 0 ≤ x then x else 0 - x) :: rest)) : sj_G X S cl sl L pc (.int x :: rest) := by
  obtain ⟨p, l, e, R, s, m, args, below, meth, c, D, cy, A, nL, Q⟩ := X
  obtain ⟨ym, cc, nL0, ret, fr, lo, mc, ms⟩ := M
  obtain ⟨hx, hb, ⟨hml, hnL⟩, hown, hts, ⟨hlk, hret, hnm⟩, hK, hAm, hA, hRR⟩ := C
  subst hq
  subst hRR
  intro H locs ls h1 h2 h3
  simp only [Bool.and_eq_true] at hfit
  exact va_mabs hx hb (hml.trans h3.1.symm) hown (hts _ hV.1) (hts _ hV.2.1) (hts _ hV.2.2.1) (hts _ hV.2.2.2) (Nat.le_of_ble_eq_true hfit.1) (Nat.le_of_ble_eq_true hfit.2.1) (Nat.le_of_ble_eq_true hfit.2.2.1) (Nat.le_of_ble_eq_true hfit.2.2.2) hd (kk H locs ls h1 h2 h3)
/-- one of the two static rows -/
def sj_Tab (X : sj_X) (which : Bool) (t : Nat) : Prop := match X with
  | (_, _, _, _, s, _, _, _, _, _, _, _, A, _, _) => va_T .int t 9 (fun j => .int ((if which then sj_t2 else sj_t1) j)) A s s.heap
theorem sj_getsR {X : sj_X} {M : sj_M} (C : sj_C X M) {S : sj_St} {cl sl : Nat} {L : List (Option Value)} {pc idx : Nat} {rest : List Value} (which : Bool) (q : Nat) (hq : pc + 3 = q) (hd : decode M.2.1 pc = .ok (.getstatic idx, 3)) (hl : Cond.fieldLink M.1.cls idx "SlantOaths" (if which then "MOST_OF_SETTING" else "FIRST_SETTINGS") "[I" ∈ sj_GT ∨ Cond.fieldLinkNest M.1.cls idx "SlantOaths" (if which then "MOST_OF_SETTING" else "FIRST_SETTINGS") "[I" "SlantOaths" ∈ sj_NWl) (kk : ∀ t : Nat, sj_Tab X which t → sj_G X S cl sl L q (.ref t :: rest)) : sj_G X S cl sl L pc rest := by
  obtain ⟨p, l, e, R, s, m, args, below, meth, c, D, cy, A, nL, Q⟩ := X
  obtain ⟨ym, cc, nL0, ret, fr, lo, mc, ms⟩ := M
  obtain ⟨hx, hb, ⟨hml, hnL⟩, hown, hts, ⟨hlk, hret, hnm⟩, hK, hAm, hA, hRR⟩ := C
  subst hq
  intro H locs ls h1 h2 h3
  obtain ⟨t1, t2, z1, z2, z3, z4⟩ := hAm.2
  cases which with
  | false =>
    rcases hl with hl | hl
    · exact va_gets hx hb z1 h2 hown (hts _ hl) (fun _ h => h) hd (kk t1 z2 H locs ls h1 h2 h3)
    · exact va_getsN hx hb z1 h2 hown ((hAm.1 _ hl).use rfl) (fun _ h => h) hd (kk t1 z2 H locs ls h1 h2 h3)
  | true =>
    rcases hl with hl | hl
    · exact va_gets hx hb z3 h2 hown (hts _ hl) (fun _ h => h) hd (kk t2 z4 H locs ls h1 h2 h3)
    · exact va_getsN hx hb z3 h2 hown ((hAm.1 _ hl).use rfl) (fun _ h => h) hd (kk t2 z4 H locs ls h1 h2 h3)
theorem sj_tld {X : sj_X} {M : sj_M} (C : sj_C X M) {S : sj_St} {cl sl : Nat} {L : List (Option Value)} {pc t : Nat} {rest : List Value} {which : Bool} {i : Int32} (q : Nat) (hq : pc + 1 = q) (hd : decode M.2.1 pc = .ok (.iaload, 1)) (hT : sj_Tab X which t) (hi : vp_in i 9) (kk : sj_G X S cl sl L q (.int ((if which then sj_t2 else sj_t1) i.toNatClampNeg) :: rest)) : sj_G X S cl sl L pc (.int i :: .ref t :: rest) := by
  obtain ⟨p, l, e, R, s, m, args, below, meth, c, D, cy, A, nL, Q⟩ := X
  obtain ⟨ym, cc, nL0, ret, fr, lo, mc, ms⟩ := M
  obtain ⟨hx, hb, ⟨hml, hnL⟩, hown, hts, ⟨hlk, hret, hnm⟩, hK, hAm, hA, hRR⟩ := C
  subst hq
  intro H locs ls h1 h2 h3
  cases which with
  | false => exact va_ti hx hb hT h2 hi rfl hd (kk H locs ls h1 h2 h3)
  | true => exact va_ti hx hb hT h2 hi rfl hd (kk H locs ls h1 h2 h3)
theorem sj_tlen {X : sj_X} {M : sj_M} (C : sj_C X M) {S : sj_St} {cl sl : Nat} {L : List (Option Value)} {pc t : Nat} {rest : List Value} {which : Bool} (q : Nat) (hq : pc + 1 = q) (hd : decode M.2.1 pc = .ok (.arraylength, 1)) (hT : sj_Tab X which t) (kk : sj_G X S cl sl L q (.int 9 :: rest)) : sj_G X S cl sl L pc (.ref t :: rest) := by
  obtain ⟨p, l, e, R, s, m, args, below, meth, c, D, cy, A, nL, Q⟩ := X
  obtain ⟨ym, cc, nL0, ret, fr, lo, mc, ms⟩ := M
  obtain ⟨hx, hb, ⟨hml, hnL⟩, hown, hts, ⟨hlk, hret, hnm⟩, hK, hAm, hA, hRR⟩ := C
  subst hq
  intro H locs ls h1 h2 h3
  exact va_tlen hx hb hT h2 rfl hd (kk H locs ls h1 h2 h3)
end
section
theorem wr_all : ∀ w ∈ (wsL_law0_r1 ++ (wsL_law0_r2 ++ (wsL_law0_r3 ++ (wsL_law0_r4 ++ (wsL_law0_r5 ++ (wsL_law0_r6 ++ (wsL_law0_r7 ++ (wsL_law0_r8 ++ (wsL_law0_r9 ++ (wsL_law0_r10 ++ (wsL_law0_r11 ++ (wsL_law0_r12 ++ (wsL_law0_r13 ++ (wsL_law0_r14 ++ (wsL_law0_r15 ++ (wsL_law0_r16 ++ (wsL_law0_r17 ++ (wsL_law0_r18 ++ (wsL_law0_r19 ++ (wsL_law0_r20 ++ (wsL_law0_r21 ++ (wsL_law0_r22 ++ (wsL_law0_r23 ++ (wsL_law0_r24 ++ (wsL_law0_r25 ++ (wsL_law0_r26 ++ (wsL_law0_r27 ++ (wsL_law0_r28 ++ (wsL_law0_r29 ++ (wsL_law0_r30 ++ (wsL_law0_r31 ++ (wsL_law0_r32 ++ (wsL_law0_r33 ++ (wsL_law0_r34 ++ (wsL_law0_r35 ++ (wsL_law0_r36 ++ (wsL_law0_r37 ++ (wsL_law0_r38 ++ (wsL_law0_r39 ++ (wsL_law0_r40 ++ (wsL_law0_r41 ++ (wsL_law0_r42 ++ (wsL_law0_r43 ++ (wsL_law0_r44)))))))))))))))))))))))))))))))))))))))))))), w ∈ wsL_law := fun w h => List.mem_append_left _ (List.mem_append_left _ (List.mem_append_left _ (List.mem_append_left _ (List.mem_append_left _ (List.mem_append_left _ (List.mem_append_left _ (List.mem_append_left _ (List.mem_append_left _ (List.mem_append_left _ (List.mem_append_left _ (List.mem_append_left _ (h))))))))))))
theorem wr_1 : ∀ w ∈ wsL_law0_r1, w ∈ wsL_law := fun w h => wr_all w (List.mem_append_left _ h)
theorem wr_2 : ∀ w ∈ wsL_law0_r2, w ∈ wsL_law := fun w h => wr_all w (List.mem_append_right _ (List.mem_append_left _ h))
theorem wr_3 : ∀ w ∈ wsL_law0_r3, w ∈ wsL_law := fun w h => wr_all w (List.mem_append_right _ (List.mem_append_right _ (List.mem_append_left _ h)))
theorem wr_4 : ∀ w ∈ wsL_law0_r4, w ∈ wsL_law := fun w h => wr_all w (List.mem_append_right _ (List.mem_append_right _ (List.mem_append_right _ (List.mem_append_left _ h))))
theorem wr_5 : ∀ w ∈ wsL_law0_r5, w ∈ wsL_law := fun w h => wr_all w (List.mem_append_right _ (List.mem_append_right _ (List.mem_append_right _ (List.mem_append_right _ (List.mem_append_left _ h)))))
theorem wr_6 : ∀ w ∈ wsL_law0_r6, w ∈ wsL_law := fun w h => wr_all w (List.mem_append_right _ (List.mem_append_right _ (List.mem_append_right _ (List.mem_append_right _ (List.mem_append_right _ (List.mem_append_left _ h))))))
theorem wr_7 : ∀ w ∈ wsL_law0_r7, w ∈ wsL_law := fun w h => wr_all w (List.mem_append_right _ (List.mem_append_right _ (List.mem_append_right _ (List.mem_append_right _ (List.mem_append_right _ (List.mem_append_right _ (List.mem_append_left _ h)))))))
theorem wr_8 : ∀ w ∈ wsL_law0_r8, w ∈ wsL_law := fun w h => wr_all w (List.mem_append_right _ (List.mem_append_right _ (List.mem_append_right _ (List.mem_append_right _ (List.mem_append_right _ (List.mem_append_right _ (List.mem_append_right _ (List.mem_append_left _ h))))))))
theorem wr_9 : ∀ w ∈ wsL_law0_r9, w ∈ wsL_law := fun w h => wr_all w (List.mem_append_right _ (List.mem_append_right _ (List.mem_append_right _ (List.mem_append_right _ (List.mem_append_right _ (List.mem_append_right _ (List.mem_append_right _ (List.mem_append_right _ (List.mem_append_left _ h)))))))))
theorem wr_10 : ∀ w ∈ wsL_law0_r10, w ∈ wsL_law := fun w h => wr_all w (List.mem_append_right _ (List.mem_append_right _ (List.mem_append_right _ (List.mem_append_right _ (List.mem_append_right _ (List.mem_append_right _ (List.mem_append_right _ (List.mem_append_right _ (List.mem_append_right _ (List.mem_append_left _ h))))))))))
theorem wr_11 : ∀ w ∈ wsL_law0_r11, w ∈ wsL_law := fun w h => wr_all w (List.mem_append_right _ (List.mem_append_right _ (List.mem_append_right _ (List.mem_append_right _ (List.mem_append_right _ (List.mem_append_right _ (List.mem_append_right _ (List.mem_append_right _ (List.mem_append_right _ (List.mem_append_right _ (List.mem_append_left _ h)))))))))))
theorem wr_12 : ∀ w ∈ wsL_law0_r12, w ∈ wsL_law := fun w h => wr_all w (List.mem_append_right _ (List.mem_append_right _ (List.mem_append_right _ (List.mem_append_right _ (List.mem_append_right _ (List.mem_append_right _ (List.mem_append_right _ (List.mem_append_right _ (List.mem_append_right _ (List.mem_append_right _ (List.mem_append_right _ (List.mem_append_left _ h))))))))))))
theorem wr_13 : ∀ w ∈ wsL_law0_r13, w ∈ wsL_law := fun w h => wr_all w (List.mem_append_right _ (List.mem_append_right _ (List.mem_append_right _ (List.mem_append_right _ (List.mem_append_right _ (List.mem_append_right _ (List.mem_append_right _ (List.mem_append_right _ (List.mem_append_right _ (List.mem_append_right _ (List.mem_append_right _ (List.mem_append_right _ (List.mem_append_left _ h)))))))))))))
theorem wr_14 : ∀ w ∈ wsL_law0_r14, w ∈ wsL_law := fun w h => wr_all w (List.mem_append_right _ (List.mem_append_right _ (List.mem_append_right _ (List.mem_append_right _ (List.mem_append_right _ (List.mem_append_right _ (List.mem_append_right _ (List.mem_append_right _ (List.mem_append_right _ (List.mem_append_right _ (List.mem_append_right _ (List.mem_append_right _ (List.mem_append_right _ (List.mem_append_left _ h))))))))))))))
theorem wr_15 : ∀ w ∈ wsL_law0_r15, w ∈ wsL_law := fun w h => wr_all w (List.mem_append_right _ (List.mem_append_right _ (List.mem_append_right _ (List.mem_append_right _ (List.mem_append_right _ (List.mem_append_right _ (List.mem_append_right _ (List.mem_append_right _ (List.mem_append_right _ (List.mem_append_right _ (List.mem_append_right _ (List.mem_append_right _ (List.mem_append_right _ (List.mem_append_right _ (List.mem_append_left _ h)))))))))))))))
theorem wr_16 : ∀ w ∈ wsL_law0_r16, w ∈ wsL_law := fun w h => wr_all w (List.mem_append_right _ (List.mem_append_right _ (List.mem_append_right _ (List.mem_append_right _ (List.mem_append_right _ (List.mem_append_right _ (List.mem_append_right _ (List.mem_append_right _ (List.mem_append_right _ (List.mem_append_right _ (List.mem_append_right _ (List.mem_append_right _ (List.mem_append_right _ (List.mem_append_right _ (List.mem_append_right _ (List.mem_append_left _ h))))))))))))))))
theorem wr_17 : ∀ w ∈ wsL_law0_r17, w ∈ wsL_law := fun w h => wr_all w (List.mem_append_right _ (List.mem_append_right _ (List.mem_append_right _ (List.mem_append_right _ (List.mem_append_right _ (List.mem_append_right _ (List.mem_append_right _ (List.mem_append_right _ (List.mem_append_right _ (List.mem_append_right _ (List.mem_append_right _ (List.mem_append_right _ (List.mem_append_right _ (List.mem_append_right _ (List.mem_append_right _ (List.mem_append_right _ (List.mem_append_left _ h)))))))))))))))))
theorem wr_18 : ∀ w ∈ wsL_law0_r18, w ∈ wsL_law := fun w h => wr_all w (List.mem_append_right _ (List.mem_append_right _ (List.mem_append_right _ (List.mem_append_right _ (List.mem_append_right _ (List.mem_append_right _ (List.mem_append_right _ (List.mem_append_right _ (List.mem_append_right _ (List.mem_append_right _ (List.mem_append_right _ (List.mem_append_right _ (List.mem_append_right _ (List.mem_append_right _ (List.mem_append_right _ (List.mem_append_right _ (List.mem_append_right _ (List.mem_append_left _ h))))))))))))))))))
theorem wr_19 : ∀ w ∈ wsL_law0_r19, w ∈ wsL_law := fun w h => wr_all w (List.mem_append_right _ (List.mem_append_right _ (List.mem_append_right _ (List.mem_append_right _ (List.mem_append_right _ (List.mem_append_right _ (List.mem_append_right _ (List.mem_append_right _ (List.mem_append_right _ (List.mem_append_right _ (List.mem_append_right _ (List.mem_append_right _ (List.mem_append_right _ (List.mem_append_right _ (List.mem_append_right _ (List.mem_append_right _ (List.mem_append_right _ (List.mem_append_right _ (List.mem_append_left _ h)))))))))))))))))))
theorem wr_20 : ∀ w ∈ wsL_law0_r20, w ∈ wsL_law := fun w h => wr_all w (List.mem_append_right _ (List.mem_append_right _ (List.mem_append_right _ (List.mem_append_right _ (List.mem_append_right _ (List.mem_append_right _ (List.mem_append_right _ (List.mem_append_right _ (List.mem_append_right _ (List.mem_append_right _ (List.mem_append_right _ (List.mem_append_right _ (List.mem_append_right _ (List.mem_append_right _ (List.mem_append_right _ (List.mem_append_right _ (List.mem_append_right _ (List.mem_append_right _ (List.mem_append_right _ (List.mem_append_left _ h))))))))))))))))))))
theorem wr_21 : ∀ w ∈ wsL_law0_r21, w ∈ wsL_law := fun w h => wr_all w (List.mem_append_right _ (List.mem_append_right _ (List.mem_append_right _ (List.mem_append_right _ (List.mem_append_right _ (List.mem_append_right _ (List.mem_append_right _ (List.mem_append_right _ (List.mem_append_right _ (List.mem_append_right _ (List.mem_append_right _ (List.mem_append_right _ (List.mem_append_right _ (List.mem_append_right _ (List.mem_append_right _ (List.mem_append_right _ (List.mem_append_right _ (List.mem_append_right _ (List.mem_append_right _ (List.mem_append_right _ (List.mem_append_left _ h)))))))))))))))))))))
theorem wr_22 : ∀ w ∈ wsL_law0_r22, w ∈ wsL_law := fun w h => wr_all w (List.mem_append_right _ (List.mem_append_right _ (List.mem_append_right _ (List.mem_append_right _ (List.mem_append_right _ (List.mem_append_right _ (List.mem_append_right _ (List.mem_append_right _ (List.mem_append_right _ (List.mem_append_right _ (List.mem_append_right _ (List.mem_append_right _ (List.mem_append_right _ (List.mem_append_right _ (List.mem_append_right _ (List.mem_append_right _ (List.mem_append_right _ (List.mem_append_right _ (List.mem_append_right _ (List.mem_append_right _ (List.mem_append_right _ (List.mem_append_left _ h))))))))))))))))))))))
theorem wr_23 : ∀ w ∈ wsL_law0_r23, w ∈ wsL_law := fun w h => wr_all w (List.mem_append_right _ (List.mem_append_right _ (List.mem_append_right _ (List.mem_append_right _ (List.mem_append_right _ (List.mem_append_right _ (List.mem_append_right _ (List.mem_append_right _ (List.mem_append_right _ (List.mem_append_right _ (List.mem_append_right _ (List.mem_append_right _ (List.mem_append_right _ (List.mem_append_right _ (List.mem_append_right _ (List.mem_append_right _ (List.mem_append_right _ (List.mem_append_right _ (List.mem_append_right _ (List.mem_append_right _ (List.mem_append_right _ (List.mem_append_right _ (List.mem_append_left _ h)))))))))))))))))))))))
theorem wr_24 : ∀ w ∈ wsL_law0_r24, w ∈ wsL_law := fun w h => wr_all w (List.mem_append_right _ (List.mem_append_right _ (List.mem_append_right _ (List.mem_append_right _ (List.mem_append_right _ (List.mem_append_right _ (List.mem_append_right _ (List.mem_append_right _ (List.mem_append_right _ (List.mem_append_right _ (List.mem_append_right _ (List.mem_append_right _ (List.mem_append_right _ (List.mem_append_right _ (List.mem_append_right _ (List.mem_append_right _ (List.mem_append_right _ (List.mem_append_right _ (List.mem_append_right _ (List.mem_append_right _ (List.mem_append_right _ (List.mem_append_right _ (List.mem_append_right _ (List.mem_append_left _ h))))))))))))))))))))))))
theorem wr_25 : ∀ w ∈ wsL_law0_r25, w ∈ wsL_law := fun w h => wr_all w (List.mem_append_right _ (List.mem_append_right _ (List.mem_append_right _ (List.mem_append_right _ (List.mem_append_right _ (List.mem_append_right _ (List.mem_append_right _ (List.mem_append_right _ (List.mem_append_right _ (List.mem_append_right _ (List.mem_append_right _ (List.mem_append_right _ (List.mem_append_right _ (List.mem_append_right _ (List.mem_append_right _ (List.mem_append_right _ (List.mem_append_right _ (List.mem_append_right _ (List.mem_append_right _ (List.mem_append_right _ (List.mem_append_right _ (List.mem_append_right _ (List.mem_append_right _ (List.mem_append_right _ (List.mem_append_left _ h)))))))))))))))))))))))))
theorem wr_26 : ∀ w ∈ wsL_law0_r26, w ∈ wsL_law := fun w h => wr_all w (List.mem_append_right _ (List.mem_append_right _ (List.mem_append_right _ (List.mem_append_right _ (List.mem_append_right _ (List.mem_append_right _ (List.mem_append_right _ (List.mem_append_right _ (List.mem_append_right _ (List.mem_append_right _ (List.mem_append_right _ (List.mem_append_right _ (List.mem_append_right _ (List.mem_append_right _ (List.mem_append_right _ (List.mem_append_right _ (List.mem_append_right _ (List.mem_append_right _ (List.mem_append_right _ (List.mem_append_right _ (List.mem_append_right _ (List.mem_append_right _ (List.mem_append_right _ (List.mem_append_right _ (List.mem_append_right _ (List.mem_append_left _ h))))))))))))))))))))))))))
theorem wr_27 : ∀ w ∈ wsL_law0_r27, w ∈ wsL_law := fun w h => wr_all w (List.mem_append_right _ (List.mem_append_right _ (List.mem_append_right _ (List.mem_append_right _ (List.mem_append_right _ (List.mem_append_right _ (List.mem_append_right _ (List.mem_append_right _ (List.mem_append_right _ (List.mem_append_right _ (List.mem_append_right _ (List.mem_append_right _ (List.mem_append_right _ (List.mem_append_right _ (List.mem_append_right _ (List.mem_append_right _ (List.mem_append_right _ (List.mem_append_right _ (List.mem_append_right _ (List.mem_append_right _ (List.mem_append_right _ (List.mem_append_right _ (List.mem_append_right _ (List.mem_append_right _ (List.mem_append_right _ (List.mem_append_right _ (List.mem_append_left _ h)))))))))))))))))))))))))))
theorem wr_28 : ∀ w ∈ wsL_law0_r28, w ∈ wsL_law := fun w h => wr_all w (List.mem_append_right _ (List.mem_append_right _ (List.mem_append_right _ (List.mem_append_right _ (List.mem_append_right _ (List.mem_append_right _ (List.mem_append_right _ (List.mem_append_right _ (List.mem_append_right _ (List.mem_append_right _ (List.mem_append_right _ (List.mem_append_right _ (List.mem_append_right _ (List.mem_append_right _ (List.mem_append_right _ (List.mem_append_right _ (List.mem_append_right _ (List.mem_append_right _ (List.mem_append_right _ (List.mem_append_right _ (List.mem_append_right _ (List.mem_append_right _ (List.mem_append_right _ (List.mem_append_right _ (List.mem_append_right _ (List.mem_append_right _ (List.mem_append_right _ (List.mem_append_left _ h))))))))))))))))))))))))))))
theorem wr_29 : ∀ w ∈ wsL_law0_r29, w ∈ wsL_law := fun w h => wr_all w (List.mem_append_right _ (List.mem_append_right _ (List.mem_append_right _ (List.mem_append_right _ (List.mem_append_right _ (List.mem_append_right _ (List.mem_append_right _ (List.mem_append_right _ (List.mem_append_right _ (List.mem_append_right _ (List.mem_append_right _ (List.mem_append_right _ (List.mem_append_right _ (List.mem_append_right _ (List.mem_append_right _ (List.mem_append_right _ (List.mem_append_right _ (List.mem_append_right _ (List.mem_append_right _ (List.mem_append_right _ (List.mem_append_right _ (List.mem_append_right _ (List.mem_append_right _ (List.mem_append_right _ (List.mem_append_right _ (List.mem_append_right _ (List.mem_append_right _ (List.mem_append_right _ (List.mem_append_left _ h)))))))))))))))))))))))))))))
theorem wr_30 : ∀ w ∈ wsL_law0_r30, w ∈ wsL_law := fun w h => wr_all w (List.mem_append_right _ (List.mem_append_right _ (List.mem_append_right _ (List.mem_append_right _ (List.mem_append_right _ (List.mem_append_right _ (List.mem_append_right _ (List.mem_append_right _ (List.mem_append_right _ (List.mem_append_right _ (List.mem_append_right _ (List.mem_append_right _ (List.mem_append_right _ (List.mem_append_right _ (List.mem_append_right _ (List.mem_append_right _ (List.mem_append_right _ (List.mem_append_right _ (List.mem_append_right _ (List.mem_append_right _ (List.mem_append_right _ (List.mem_append_right _ (List.mem_append_right _ (List.mem_append_right _ (List.mem_append_right _ (List.mem_append_right _ (List.mem_append_right _ (List.mem_append_right _ (List.mem_append_right _ (List.mem_append_left _ h))))))))))))))))))))))))))))))
theorem wr_31 : ∀ w ∈ wsL_law0_r31, w ∈ wsL_law := fun w h => wr_all w (List.mem_append_right _ (List.mem_append_right _ (List.mem_append_right _ (List.mem_append_right _ (List.mem_append_right _ (List.mem_append_right _ (List.mem_append_right _ (List.mem_append_right _ (List.mem_append_right _ (List.mem_append_right _ (List.mem_append_right _ (List.mem_append_right _ (List.mem_append_right _ (List.mem_append_right _ (List.mem_append_right _ (List.mem_append_right _ (List.mem_append_right _ (List.mem_append_right _ (List.mem_append_right _ (List.mem_append_right _ (List.mem_append_right _ (List.mem_append_right _ (List.mem_append_right _ (List.mem_append_right _ (List.mem_append_right _ (List.mem_append_right _ (List.mem_append_right _ (List.mem_append_right _ (List.mem_append_right _ (List.mem_append_right _ (List.mem_append_left _ h)))))))))))))))))))))))))))))))
theorem wr_32 : ∀ w ∈ wsL_law0_r32, w ∈ wsL_law := fun w h => wr_all w (List.mem_append_right _ (List.mem_append_right _ (List.mem_append_right _ (List.mem_append_right _ (List.mem_append_right _ (List.mem_append_right _ (List.mem_append_right _ (List.mem_append_right _ (List.mem_append_right _ (List.mem_append_right _ (List.mem_append_right _ (List.mem_append_right _ (List.mem_append_right _ (List.mem_append_right _ (List.mem_append_right _ (List.mem_append_right _ (List.mem_append_right _ (List.mem_append_right _ (List.mem_append_right _ (List.mem_append_right _ (List.mem_append_right _ (List.mem_append_right _ (List.mem_append_right _ (List.mem_append_right _ (List.mem_append_right _ (List.mem_append_right _ (List.mem_append_right _ (List.mem_append_right _ (List.mem_append_right _ (List.mem_append_right _ (List.mem_append_right _ (List.mem_append_left _ h))))))))))))))))))))))))))))))))
theorem wr_33 : ∀ w ∈ wsL_law0_r33, w ∈ wsL_law := fun w h => wr_all w (List.mem_append_right _ (List.mem_append_right _ (List.mem_append_right _ (List.mem_append_right _ (List.mem_append_right _ (List.mem_append_right _ (List.mem_append_right _ (List.mem_append_right _ (List.mem_append_right _ (List.mem_append_right _ (List.mem_append_right _ (List.mem_append_right _ (List.mem_append_right _ (List.mem_append_right _ (List.mem_append_right _ (List.mem_append_right _ (List.mem_append_right _ (List.mem_append_right _ (List.mem_append_right _ (List.mem_append_right _ (List.mem_append_right _ (List.mem_append_right _ (List.mem_append_right _ (List.mem_append_right _ (List.mem_append_right _ (List.mem_append_right _ (List.mem_append_right _ (List.mem_append_right _ (List.mem_append_right _ (List.mem_append_right _ (List.mem_append_right _ (List.mem_append_right _ (List.mem_append_left _ h)))))))))))))))))))))))))))))))))
theorem wr_34 : ∀ w ∈ wsL_law0_r34, w ∈ wsL_law := fun w h => wr_all w (List.mem_append_right _ (List.mem_append_right _ (List.mem_append_right _ (List.mem_append_right _ (List.mem_append_right _ (List.mem_append_right _ (List.mem_append_right _ (List.mem_append_right _ (List.mem_append_right _ (List.mem_append_right _ (List.mem_append_right _ (List.mem_append_right _ (List.mem_append_right _ (List.mem_append_right _ (List.mem_append_right _ (List.mem_append_right _ (List.mem_append_right _ (List.mem_append_right _ (List.mem_append_right _ (List.mem_append_right _ (List.mem_append_right _ (List.mem_append_right _ (List.mem_append_right _ (List.mem_append_right _ (List.mem_append_right _ (List.mem_append_right _ (List.mem_append_right _ (List.mem_append_right _ (List.mem_append_right _ (List.mem_append_right _ (List.mem_append_right _ (List.mem_append_right _ (List.mem_append_right _ (List.mem_append_left _ h))))))))))))))))))))))))))))))))))
theorem wr_35 : ∀ w ∈ wsL_law0_r35, w ∈ wsL_law := fun w h => wr_all w (List.mem_append_right _ (List.mem_append_right _ (List.mem_append_right _ (List.mem_append_right _ (List.mem_append_right _ (List.mem_append_right _ (List.mem_append_right _ (List.mem_append_right _ (List.mem_append_right _ (List.mem_append_right _ (List.mem_append_right _ (List.mem_append_right _ (List.mem_append_right _ (List.mem_append_right _ (List.mem_append_right _ (List.mem_append_right _ (List.mem_append_right _ (List.mem_append_right _ (List.mem_append_right _ (List.mem_append_right _ (List.mem_append_right _ (List.mem_append_right _ (List.mem_append_right _ (List.mem_append_right _ (List.mem_append_right _ (List.mem_append_right _ (List.mem_append_right _ (List.mem_append_right _ (List.mem_append_right _ (List.mem_append_right _ (List.mem_append_right _ (List.mem_append_right _ (List.mem_append_right _ (List.mem_append_right _ (List.mem_append_left _ h)))))))))))))))))))))))))))))))))))
theorem wr_36 : ∀ w ∈ wsL_law0_r36, w ∈ wsL_law := fun w h => wr_all w (List.mem_append_right _ (List.mem_append_right _ (List.mem_append_right _ (List.mem_append_right _ (List.mem_append_right _ (List.mem_append_right _ (List.mem_append_right _ (List.mem_append_right _ (List.mem_append_right _ (List.mem_append_right _ (List.mem_append_right _ (List.mem_append_right _ (List.mem_append_right _ (List.mem_append_right _ (List.mem_append_right _ (List.mem_append_right _ (List.mem_append_right _ (List.mem_append_right _ (List.mem_append_right _ (List.mem_append_right _ (List.mem_append_right _ (List.mem_append_right _ (List.mem_append_right _ (List.mem_append_right _ (List.mem_append_right _ (List.mem_append_right _ (List.mem_append_right _ (List.mem_append_right _ (List.mem_append_right _ (List.mem_append_right _ (List.mem_append_right _ (List.mem_append_right _ (List.mem_append_right _ (List.mem_append_right _ (List.mem_append_right _ (List.mem_append_left _ h))))))))))))))))))))))))))))))))))))
theorem wr_37 : ∀ w ∈ wsL_law0_r37, w ∈ wsL_law := fun w h => wr_all w (List.mem_append_right _ (List.mem_append_right _ (List.mem_append_right _ (List.mem_append_right _ (List.mem_append_right _ (List.mem_append_right _ (List.mem_append_right _ (List.mem_append_right _ (List.mem_append_right _ (List.mem_append_right _ (List.mem_append_right _ (List.mem_append_right _ (List.mem_append_right _ (List.mem_append_right _ (List.mem_append_right _ (List.mem_append_right _ (List.mem_append_right _ (List.mem_append_right _ (List.mem_append_right _ (List.mem_append_right _ (List.mem_append_right _ (List.mem_append_right _ (List.mem_append_right _ (List.mem_append_right _ (List.mem_append_right _ (List.mem_append_right _ (List.mem_append_right _ (List.mem_append_right _ (List.mem_append_right _ (List.mem_append_right _ (List.mem_append_right _ (List.mem_append_right _ (List.mem_append_right _ (List.mem_append_right _ (List.mem_append_right _ (List.mem_append_right _ (List.mem_append_left _ h)))))))))))))))))))))))))))))))))))))
theorem wr_38 : ∀ w ∈ wsL_law0_r38, w ∈ wsL_law := fun w h => wr_all w (List.mem_append_right _ (List.mem_append_right _ (List.mem_append_right _ (List.mem_append_right _ (List.mem_append_right _ (List.mem_append_right _ (List.mem_append_right _ (List.mem_append_right _ (List.mem_append_right _ (List.mem_append_right _ (List.mem_append_right _ (List.mem_append_right _ (List.mem_append_right _ (List.mem_append_right _ (List.mem_append_right _ (List.mem_append_right _ (List.mem_append_right _ (List.mem_append_right _ (List.mem_append_right _ (List.mem_append_right _ (List.mem_append_right _ (List.mem_append_right _ (List.mem_append_right _ (List.mem_append_right _ (List.mem_append_right _ (List.mem_append_right _ (List.mem_append_right _ (List.mem_append_right _ (List.mem_append_right _ (List.mem_append_right _ (List.mem_append_right _ (List.mem_append_right _ (List.mem_append_right _ (List.mem_append_right _ (List.mem_append_right _ (List.mem_append_right _ (List.mem_append_right _ (List.mem_append_left _ h))))))))))))))))))))))))))))))))))))))
theorem wr_39 : ∀ w ∈ wsL_law0_r39, w ∈ wsL_law := fun w h => wr_all w (List.mem_append_right _ (List.mem_append_right _ (List.mem_append_right _ (List.mem_append_right _ (List.mem_append_right _ (List.mem_append_right _ (List.mem_append_right _ (List.mem_append_right _ (List.mem_append_right _ (List.mem_append_right _ (List.mem_append_right _ (List.mem_append_right _ (List.mem_append_right _ (List.mem_append_right _ (List.mem_append_right _ (List.mem_append_right _ (List.mem_append_right _ (List.mem_append_right _ (List.mem_append_right _ (List.mem_append_right _ (List.mem_append_right _ (List.mem_append_right _ (List.mem_append_right _ (List.mem_append_right _ (List.mem_append_right _ (List.mem_append_right _ (List.mem_append_right _ (List.mem_append_right _ (List.mem_append_right _ (List.mem_append_right _ (List.mem_append_right _ (List.mem_append_right _ (List.mem_append_right _ (List.mem_append_right _ (List.mem_append_right _ (List.mem_append_right _ (List.mem_append_right _ (List.mem_append_right _ (List.mem_append_left _ h)))))))))))))))))))))))))))))))))))))))
theorem wr_40 : ∀ w ∈ wsL_law0_r40, w ∈ wsL_law := fun w h => wr_all w (List.mem_append_right _ (List.mem_append_right _ (List.mem_append_right _ (List.mem_append_right _ (List.mem_append_right _ (List.mem_append_right _ (List.mem_append_right _ (List.mem_append_right _ (List.mem_append_right _ (List.mem_append_right _ (List.mem_append_right _ (List.mem_append_right _ (List.mem_append_right _ (List.mem_append_right _ (List.mem_append_right _ (List.mem_append_right _ (List.mem_append_right _ (List.mem_append_right _ (List.mem_append_right _ (List.mem_append_right _ (List.mem_append_right _ (List.mem_append_right _ (List.mem_append_right _ (List.mem_append_right _ (List.mem_append_right _ (List.mem_append_right _ (List.mem_append_right _ (List.mem_append_right _ (List.mem_append_right _ (List.mem_append_right _ (List.mem_append_right _ (List.mem_append_right _ (List.mem_append_right _ (List.mem_append_right _ (List.mem_append_right _ (List.mem_append_right _ (List.mem_append_right _ (List.mem_append_right _ (List.mem_append_right _ (List.mem_append_left _ h))))))))))))))))))))))))))))))))))))))))
theorem wr_41 : ∀ w ∈ wsL_law0_r41, w ∈ wsL_law := fun w h => wr_all w (List.mem_append_right _ (List.mem_append_right _ (List.mem_append_right _ (List.mem_append_right _ (List.mem_append_right _ (List.mem_append_right _ (List.mem_append_right _ (List.mem_append_right _ (List.mem_append_right _ (List.mem_append_right _ (List.mem_append_right _ (List.mem_append_right _ (List.mem_append_right _ (List.mem_append_right _ (List.mem_append_right _ (List.mem_append_right _ (List.mem_append_right _ (List.mem_append_right _ (List.mem_append_right _ (List.mem_append_right _ (List.mem_append_right _ (List.mem_append_right _ (List.mem_append_right _ (List.mem_append_right _ (List.mem_append_right _ (List.mem_append_right _ (List.mem_append_right _ (List.mem_append_right _ (List.mem_append_right _ (List.mem_append_right _ (List.mem_append_right _ (List.mem_append_right _ (List.mem_append_right _ (List.mem_append_right _ (List.mem_append_right _ (List.mem_append_right _ (List.mem_append_right _ (List.mem_append_right _ (List.mem_append_right _ (List.mem_append_right _ (List.mem_append_left _ h)))))))))))))))))))))))))))))))))))))))))
theorem wr_42 : ∀ w ∈ wsL_law0_r42, w ∈ wsL_law := fun w h => wr_all w (List.mem_append_right _ (List.mem_append_right _ (List.mem_append_right _ (List.mem_append_right _ (List.mem_append_right _ (List.mem_append_right _ (List.mem_append_right _ (List.mem_append_right _ (List.mem_append_right _ (List.mem_append_right _ (List.mem_append_right _ (List.mem_append_right _ (List.mem_append_right _ (List.mem_append_right _ (List.mem_append_right _ (List.mem_append_right _ (List.mem_append_right _ (List.mem_append_right _ (List.mem_append_right _ (List.mem_append_right _ (List.mem_append_right _ (List.mem_append_right _ (List.mem_append_right _ (List.mem_append_right _ (List.mem_append_right _ (List.mem_append_right _ (List.mem_append_right _ (List.mem_append_right _ (List.mem_append_right _ (List.mem_append_right _ (List.mem_append_right _ (List.mem_append_right _ (List.mem_append_right _ (List.mem_append_right _ (List.mem_append_right _ (List.mem_append_right _ (List.mem_append_right _ (List.mem_append_right _ (List.mem_append_right _ (List.mem_append_right _ (List.mem_append_right _ (List.mem_append_left _ h))))))))))))))))))))))))))))))))))))))))))
theorem wr_43 : ∀ w ∈ wsL_law0_r43, w ∈ wsL_law := fun w h => wr_all w (List.mem_append_right _ (List.mem_append_right _ (List.mem_append_right _ (List.mem_append_right _ (List.mem_append_right _ (List.mem_append_right _ (List.mem_append_right _ (List.mem_append_right _ (List.mem_append_right _ (List.mem_append_right _ (List.mem_append_right _ (List.mem_append_right _ (List.mem_append_right _ (List.mem_append_right _ (List.mem_append_right _ (List.mem_append_right _ (List.mem_append_right _ (List.mem_append_right _ (List.mem_append_right _ (List.mem_append_right _ (List.mem_append_right _ (List.mem_append_right _ (List.mem_append_right _ (List.mem_append_right _ (List.mem_append_right _ (List.mem_append_right _ (List.mem_append_right _ (List.mem_append_right _ (List.mem_append_right _ (List.mem_append_right _ (List.mem_append_right _ (List.mem_append_right _ (List.mem_append_right _ (List.mem_append_right _ (List.mem_append_right _ (List.mem_append_right _ (List.mem_append_right _ (List.mem_append_right _ (List.mem_append_right _ (List.mem_append_right _ (List.mem_append_right _ (List.mem_append_right _ (List.mem_append_left _ h)))))))))))))))))))))))))))))))))))))))))))
theorem wr_44 : ∀ w ∈ wsL_law0_r44, w ∈ wsL_law := fun w h => wr_all w (List.mem_append_right _ (List.mem_append_right _ (List.mem_append_right _ (List.mem_append_right _ (List.mem_append_right _ (List.mem_append_right _ (List.mem_append_right _ (List.mem_append_right _ (List.mem_append_right _ (List.mem_append_right _ (List.mem_append_right _ (List.mem_append_right _ (List.mem_append_right _ (List.mem_append_right _ (List.mem_append_right _ (List.mem_append_right _ (List.mem_append_right _ (List.mem_append_right _ (List.mem_append_right _ (List.mem_append_right _ (List.mem_append_right _ (List.mem_append_right _ (List.mem_append_right _ (List.mem_append_right _ (List.mem_append_right _ (List.mem_append_right _ (List.mem_append_right _ (List.mem_append_right _ (List.mem_append_right _ (List.mem_append_right _ (List.mem_append_right _ (List.mem_append_right _ (List.mem_append_right _ (List.mem_append_right _ (List.mem_append_right _ (List.mem_append_right _ (List.mem_append_right _ (List.mem_append_right _ (List.mem_append_right _ (List.mem_append_right _ (List.mem_append_right _ (List.mem_append_right _ (List.mem_append_right _ (h))))))))))))))))))))))))))))))))))))))))))))
theorem kk_X0 : sj_K 0 RX0 TX0 3 tyX0 := ⟨rfl, rfl, by decide, fun w h => inlX0 w h, tyX0_ok, nmX0, by decide +kernel⟩
theorem kk_X1 : sj_K 1 RX1 TX1 6 tyX1 := ⟨rfl, rfl, by decide, fun w h => inlX1 w h, tyX1_ok, nmX1, by decide +kernel⟩
theorem kk_X2 : sj_K 2 RX2 TX2 1 tyX2 := ⟨rfl, rfl, by decide, fun w h => inlX2 w h, tyX2_ok, nmX2, by decide +kernel⟩
theorem kk_X3 : sj_K 3 RX3 TX3 3 tyX3 := ⟨rfl, rfl, by decide, fun w h => inlX3 w h, tyX3_ok, nmX3, by decide +kernel⟩
theorem kk_X4 : sj_K 4 RX4 TX4 8 tyX4 := ⟨rfl, rfl, by decide, fun w h => inlX4 w h, tyX4_ok, nmX4, by decide +kernel⟩
theorem kk_X5 : sj_K 5 RX5 TX5 10 tyX5 := ⟨rfl, rfl, by decide, fun w h => inlX5 w h, tyX5_ok, nmX5, by decide +kernel⟩
theorem kk_X6 : sj_K 6 RX6 TX6 5 tyX6 := ⟨rfl, rfl, by decide, fun w h => inlX6 w h, tyX6_ok, nmX6, by decide +kernel⟩
theorem kk_X7 : sj_K 7 RX7 TX7 17 tyX7 := ⟨rfl, rfl, by decide, fun w h => inlX7 w h, tyX7_ok, nmX7, by decide +kernel⟩
theorem fd_X0_11 : sj_Fd RX0 11 0 0 1 (.array (.object "SlantOaths$Table")) true := ⟨RX0, TX0, 3, tyX0, kk_X0, Or.inl (wr_5 _ (List.mem_of_getElem? (i := 15) (by decide +kernel))), by decide, rfl, rfl, rfl, rfl⟩
theorem fd_X0_18 : sj_Fd RX0 18 0 1 0 .int false := ⟨RX0, TX0, 3, tyX0, kk_X0, Or.inl (wr_8 _ (List.mem_of_getElem? (i := 18) (by decide +kernel))), by decide, rfl, rfl, rfl, rfl⟩
theorem fd_X0_30 : sj_Fd RX0 30 0 2 0 .int false := ⟨RX0, TX0, 3, tyX0, kk_X0, Or.inl (wr_8 _ (List.mem_of_getElem? (i := 19) (by decide +kernel))), by decide, rfl, rfl, rfl, rfl⟩
theorem fd_X1_14 : sj_Fd RX1 14 1 2 1 (.object "SlantOaths$Row") true := ⟨RX1, TX1, 6, tyX1, kk_X1, Or.inl (wr_4 _ (List.mem_of_getElem? (i := 8) (by decide +kernel))), by decide, rfl, rfl, rfl, rfl⟩
theorem fd_X1_20 : sj_Fd RX1 20 1 3 1 (.object "SlantOaths$Row") true := ⟨RX1, TX1, 6, tyX1, kk_X1, Or.inl (wr_4 _ (List.mem_of_getElem? (i := 9) (by decide +kernel))), by decide, rfl, rfl, rfl, rfl⟩
theorem fd_X1_23 : sj_Fd RX1 23 1 4 1 (.object "SlantOaths$Row") true := ⟨RX1, TX1, 6, tyX1, kk_X1, Or.inl (wr_4 _ (List.mem_of_getElem? (i := 10) (by decide +kernel))), by decide, rfl, rfl, rfl, rfl⟩
theorem fd_X1_26 : sj_Fd RX1 26 1 5 1 (.object "SlantOaths$Row") true := ⟨RX1, TX1, 6, tyX1, kk_X1, Or.inl (wr_4 _ (List.mem_of_getElem? (i := 11) (by decide +kernel))), by decide, rfl, rfl, rfl, rfl⟩
theorem fd_X1_29 : sj_Fd RX1 29 1 0 0 .int false := ⟨RX1, TX1, 6, tyX1, kk_X1, Or.inl (wr_4 _ (List.mem_of_getElem? (i := 20) (by decide +kernel))), by decide, rfl, rfl, rfl, rfl⟩
theorem fd_X1_33 : sj_Fd RX1 33 1 1 0 .int false := ⟨RX1, TX1, 6, tyX1, kk_X1, Or.inl (wr_9 _ (List.mem_of_getElem? (i := 10) (by decide +kernel))), by decide, rfl, rfl, rfl, rfl⟩
theorem fd_X2_7 : sj_Fd RX2 7 2 0 1 (.array .int) true := ⟨RX2, TX2, 1, tyX2, kk_X2, Or.inl (wr_2 _ (List.mem_of_getElem? (i := 19) (by decide +kernel))), by decide, rfl, rfl, rfl, rfl⟩
theorem fd_X3_14 : sj_Fd RX3 14 3 2 1 (.object "SlantOaths$Row") true := ⟨RX3, TX3, 3, tyX3, kk_X3, Or.inl (wr_3 _ (List.mem_of_getElem? (i := 19) (by decide +kernel))), by decide, rfl, rfl, rfl, rfl⟩
theorem fd_X3_20 : sj_Fd RX3 20 3 0 0 .int true := ⟨RX3, TX3, 3, tyX3, kk_X3, Or.inl (wr_3 _ (List.mem_of_getElem? (i := 20) (by decide +kernel))), by decide, rfl, rfl, rfl, rfl⟩
theorem fd_X3_24 : sj_Fd RX3 24 3 1 1 (.object "SlantOaths$Row") true := ⟨RX3, TX3, 3, tyX3, kk_X3, Or.inl (wr_3 _ (List.mem_of_getElem? (i := 21) (by decide +kernel))), by decide, rfl, rfl, rfl, rfl⟩
theorem fd_X4_14 : sj_Fd RX4 14 4 0 1 (.object "SlantOaths$Sheet") true := ⟨RX4, TX4, 8, tyX4, kk_X4, Or.inl (wr_3 _ (List.mem_of_getElem? (i := 3) (by decide +kernel))), by decide, rfl, rfl, rfl, rfl⟩
theorem fd_X4_20 : sj_Fd RX4 20 4 1 1 (.array (.object "SlantOaths$Sheet")) true := ⟨RX4, TX4, 8, tyX4, kk_X4, Or.inl (wr_3 _ (List.mem_of_getElem? (i := 4) (by decide +kernel))), by decide, rfl, rfl, rfl, rfl⟩
theorem fd_X4_29 : sj_Fd RX4 29 4 2 1 (.object "SlantOaths$Row") true := ⟨RX4, TX4, 8, tyX4, kk_X4, Or.inl (wr_3 _ (List.mem_of_getElem? (i := 6) (by decide +kernel))), by decide, rfl, rfl, rfl, rfl⟩
theorem fd_X4_36 : sj_Fd RX4 36 4 4 1 (.object "SlantOaths$Oaths") true := ⟨RX4, TX4, 8, tyX4, kk_X4, Or.inl (wr_3 _ (List.mem_of_getElem? (i := 10) (by decide +kernel))), by decide, rfl, rfl, rfl, rfl⟩
theorem fd_X4_40 : sj_Fd RX4 40 4 5 1 (.object "SlantOaths$Row") true := ⟨RX4, TX4, 8, tyX4, kk_X4, Or.inl (wr_3 _ (List.mem_of_getElem? (i := 11) (by decide +kernel))), by decide, rfl, rfl, rfl, rfl⟩
theorem fd_X4_43 : sj_Fd RX4 43 4 6 0 .int false := ⟨RX4, TX4, 8, tyX4, kk_X4, Or.inl (wr_3 _ (List.mem_of_getElem? (i := 12) (by decide +kernel))), by decide, rfl, rfl, rfl, rfl⟩
theorem fd_X4_47 : sj_Fd RX4 47 4 7 0 .int false := ⟨RX4, TX4, 8, tyX4, kk_X4, Or.inl (wr_3 _ (List.mem_of_getElem? (i := 13) (by decide +kernel))), by decide, rfl, rfl, rfl, rfl⟩
theorem fd_X4_65 : sj_Fd RX4 65 4 3 0 .int false := ⟨RX4, TX4, 8, tyX4, kk_X4, Or.inl (wr_9 _ (List.mem_of_getElem? (i := 4) (by decide +kernel))), by decide, rfl, rfl, rfl, rfl⟩
theorem fd_X4_95 : sj_Fd RX4 95 3 0 0 .int true := ⟨RX3, TX3, 3, tyX3, kk_X3, Or.inr (List.mem_of_getElem? (i := 16) (by decide +kernel)), by decide, rfl, rfl, rfl, rfl⟩
theorem fd_X4_114 : sj_Fd RX4 114 1 0 0 .int false := ⟨RX1, TX1, 6, tyX1, kk_X1, Or.inr (List.mem_of_getElem? (i := 17) (by decide +kernel)), by decide, rfl, rfl, rfl, rfl⟩
theorem fd_X4_128 : sj_Fd RX4 128 1 1 0 .int false := ⟨RX1, TX1, 6, tyX1, kk_X1, Or.inr (List.mem_of_getElem? (i := 18) (by decide +kernel)), by decide, rfl, rfl, rfl, rfl⟩
theorem fd_X4_163 : sj_Fd RX4 163 3 2 1 (.object "SlantOaths$Row") true := ⟨RX3, TX3, 3, tyX3, kk_X3, Or.inr (List.mem_of_getElem? (i := 19) (by decide +kernel)), by decide, rfl, rfl, rfl, rfl⟩
theorem fd_X5_14 : sj_Fd RX5 14 5 0 1 (.object "SlantOaths$Row") true := ⟨RX5, TX5, 10, tyX5, kk_X5, Or.inl (wr_2 _ (List.mem_of_getElem? (i := 9) (by decide +kernel))), by decide, rfl, rfl, rfl, rfl⟩
theorem fd_X5_20 : sj_Fd RX5 20 5 4 1 (.object "SlantOaths$Row") true := ⟨RX5, TX5, 10, tyX5, kk_X5, Or.inl (wr_2 _ (List.mem_of_getElem? (i := 10) (by decide +kernel))), by decide, rfl, rfl, rfl, rfl⟩
theorem fd_X5_23 : sj_Fd RX5 23 5 6 1 (.object "SlantOaths$Row") true := ⟨RX5, TX5, 10, tyX5, kk_X5, Or.inl (wr_2 _ (List.mem_of_getElem? (i := 11) (by decide +kernel))), by decide, rfl, rfl, rfl, rfl⟩
theorem fd_X5_26 : sj_Fd RX5 26 5 7 1 (.object "SlantOaths$Row") true := ⟨RX5, TX5, 10, tyX5, kk_X5, Or.inl (wr_2 _ (List.mem_of_getElem? (i := 12) (by decide +kernel))), by decide, rfl, rfl, rfl, rfl⟩
theorem fd_X5_29 : sj_Fd RX5 29 5 8 1 (.object "SlantOaths$Row") true := ⟨RX5, TX5, 10, tyX5, kk_X5, Or.inl (wr_2 _ (List.mem_of_getElem? (i := 13) (by decide +kernel))), by decide, rfl, rfl, rfl, rfl⟩
theorem fd_X5_32 : sj_Fd RX5 32 5 1 0 .int false := ⟨RX5, TX5, 10, tyX5, kk_X5, Or.inl (wr_7 _ (List.mem_of_getElem? (i := 19) (by decide +kernel))), by decide, rfl, rfl, rfl, rfl⟩
theorem fd_X5_65 : sj_Fd RX5 65 5 2 0 .int false := ⟨RX5, TX5, 10, tyX5, kk_X5, Or.inl (wr_7 _ (List.mem_of_getElem? (i := 3) (by decide +kernel))), by decide, rfl, rfl, rfl, rfl⟩
theorem fd_X5_68 : sj_Fd RX5 68 5 3 0 .boolean false := ⟨RX5, TX5, 10, tyX5, kk_X5, Or.inl (wr_7 _ (List.mem_of_getElem? (i := 4) (by decide +kernel))), by decide, rfl, rfl, rfl, rfl⟩
theorem fd_X5_72 : sj_Fd RX5 72 5 5 0 .int false := ⟨RX5, TX5, 10, tyX5, kk_X5, Or.inl (wr_7 _ (List.mem_of_getElem? (i := 5) (by decide +kernel))), by decide, rfl, rfl, rfl, rfl⟩
theorem fd_X5_75 : sj_Fd RX5 75 5 9 0 .int false := ⟨RX5, TX5, 10, tyX5, kk_X5, Or.inl (wr_7 _ (List.mem_of_getElem? (i := 6) (by decide +kernel))), by decide, rfl, rfl, rfl, rfl⟩
theorem fd_X6_10 : sj_Fd RX6 10 6 0 1 (.object "SlantOaths$Text") true := ⟨RX6, TX6, 5, tyX6, kk_X6, Or.inl (wr_1 _ (List.mem_of_getElem? (i := 16) (by decide +kernel))), by decide, rfl, rfl, rfl, rfl⟩
theorem fd_X6_19 : sj_Fd RX6 19 6 1 1 (.object "SlantOaths$Table") true := ⟨RX6, TX6, 5, tyX6, kk_X6, Or.inl (wr_1 _ (List.mem_of_getElem? (i := 20) (by decide +kernel))), by decide, rfl, rfl, rfl, rfl⟩
theorem fd_X6_26 : sj_Fd RX6 26 6 2 1 (.object "SlantOaths$History") true := ⟨RX6, TX6, 5, tyX6, kk_X6, Or.inl (wr_2 _ (List.mem_of_getElem? (i := 0) (by decide +kernel))), by decide, rfl, rfl, rfl, rfl⟩
theorem fd_X6_30 : sj_Fd RX6 30 6 3 1 (.object "SlantOaths$Table") true := ⟨RX6, TX6, 5, tyX6, kk_X6, Or.inl (wr_2 _ (List.mem_of_getElem? (i := 1) (by decide +kernel))), by decide, rfl, rfl, rfl, rfl⟩
theorem fd_X6_33 : sj_Fd RX6 33 6 4 0 .boolean false := ⟨RX6, TX6, 5, tyX6, kk_X6, Or.inl (wr_2 _ (List.mem_of_getElem? (i := 2) (by decide +kernel))), by decide, rfl, rfl, rfl, rfl⟩
theorem fd_X6_48 : sj_Fd RX6 48 4 3 0 .int false := ⟨RX4, TX4, 8, tyX4, kk_X4, Or.inr (List.mem_of_getElem? (i := 0) (by decide +kernel)), by decide, rfl, rfl, rfl, rfl⟩
theorem fd_X6_63 : sj_Fd RX6 63 5 5 0 .int false := ⟨RX5, TX5, 10, tyX5, kk_X5, Or.inr (List.mem_of_getElem? (i := 1) (by decide +kernel)), by decide, rfl, rfl, rfl, rfl⟩
theorem fd_X6_66 : sj_Fd RX6 66 5 4 1 (.object "SlantOaths$Row") true := ⟨RX5, TX5, 10, tyX5, kk_X5, Or.inr (List.mem_of_getElem? (i := 2) (by decide +kernel)), by decide, rfl, rfl, rfl, rfl⟩
theorem fd_X6_109 : sj_Fd RX6 109 4 5 1 (.object "SlantOaths$Row") true := ⟨RX4, TX4, 8, tyX4, kk_X4, Or.inr (List.mem_of_getElem? (i := 3) (by decide +kernel)), by decide, rfl, rfl, rfl, rfl⟩
theorem fd_X6_131 : sj_Fd RX6 131 4 4 1 (.object "SlantOaths$Oaths") true := ⟨RX4, TX4, 8, tyX4, kk_X4, Or.inr (List.mem_of_getElem? (i := 4) (by decide +kernel)), by decide, rfl, rfl, rfl, rfl⟩
theorem fd_X6_155 : sj_Fd RX6 155 5 1 0 .int false := ⟨RX5, TX5, 10, tyX5, kk_X5, Or.inr (List.mem_of_getElem? (i := 5) (by decide +kernel)), by decide, rfl, rfl, rfl, rfl⟩
theorem fd_X6_165 : sj_Fd RX6 165 5 2 0 .int false := ⟨RX5, TX5, 10, tyX5, kk_X5, Or.inr (List.mem_of_getElem? (i := 6) (by decide +kernel)), by decide, rfl, rfl, rfl, rfl⟩
theorem fd_X6_173 : sj_Fd RX6 173 5 9 0 .int false := ⟨RX5, TX5, 10, tyX5, kk_X5, Or.inr (List.mem_of_getElem? (i := 7) (by decide +kernel)), by decide, rfl, rfl, rfl, rfl⟩
theorem fd_X6_181 : sj_Fd RX6 181 4 6 0 .int false := ⟨RX4, TX4, 8, tyX4, kk_X4, Or.inr (List.mem_of_getElem? (i := 8) (by decide +kernel)), by decide, rfl, rfl, rfl, rfl⟩
theorem fd_X6_184 : sj_Fd RX6 184 4 7 0 .int false := ⟨RX4, TX4, 8, tyX4, kk_X4, Or.inr (List.mem_of_getElem? (i := 9) (by decide +kernel)), by decide, rfl, rfl, rfl, rfl⟩
theorem fd_X6_187 : sj_Fd RX6 187 0 2 0 .int false := ⟨RX0, TX0, 3, tyX0, kk_X0, Or.inr (List.mem_of_getElem? (i := 10) (by decide +kernel)), by decide, rfl, rfl, rfl, rfl⟩
theorem fd_X6_225 : sj_Fd RX6 225 1 0 0 .int false := ⟨RX1, TX1, 6, tyX1, kk_X1, Or.inr (List.mem_of_getElem? (i := 11) (by decide +kernel)), by decide, rfl, rfl, rfl, rfl⟩
theorem fd_X6_269 : sj_Fd RX6 269 5 7 1 (.object "SlantOaths$Row") true := ⟨RX5, TX5, 10, tyX5, kk_X5, Or.inr (List.mem_of_getElem? (i := 12) (by decide +kernel)), by decide, rfl, rfl, rfl, rfl⟩
theorem fd_X6_272 : sj_Fd RX6 272 5 8 1 (.object "SlantOaths$Row") true := ⟨RX5, TX5, 10, tyX5, kk_X5, Or.inr (List.mem_of_getElem? (i := 13) (by decide +kernel)), by decide, rfl, rfl, rfl, rfl⟩
theorem fd_X6_275 : sj_Fd RX6 275 5 6 1 (.object "SlantOaths$Row") true := ⟨RX5, TX5, 10, tyX5, kk_X5, Or.inr (List.mem_of_getElem? (i := 14) (by decide +kernel)), by decide, rfl, rfl, rfl, rfl⟩
theorem fd_X7_7 : sj_Fd RX7 7 7 1 1 (.array .int) true := ⟨RX7, TX7, 17, tyX7, kk_X7, Or.inl (wr_5 _ (List.mem_of_getElem? (i := 21) (by decide +kernel))), by decide, rfl, rfl, rfl, rfl⟩
theorem fd_X7_13 : sj_Fd RX7 13 7 2 1 (.array .int) true := ⟨RX7, TX7, 17, tyX7, kk_X7, Or.inl (wr_5 _ (List.mem_of_getElem? (i := 22) (by decide +kernel))), by decide, rfl, rfl, rfl, rfl⟩
theorem fd_X7_16 : sj_Fd RX7 16 7 3 1 (.array .int) true := ⟨RX7, TX7, 17, tyX7, kk_X7, Or.inl (wr_5 _ (List.mem_of_getElem? (i := 23) (by decide +kernel))), by decide, rfl, rfl, rfl, rfl⟩
theorem fd_X7_19 : sj_Fd RX7 19 7 5 1 (.array .int) true := ⟨RX7, TX7, 17, tyX7, kk_X7, Or.inl (wr_6 _ (List.mem_of_getElem? (i := 0) (by decide +kernel))), by decide, rfl, rfl, rfl, rfl⟩
theorem fd_X7_22 : sj_Fd RX7 22 7 7 1 (.array .int) true := ⟨RX7, TX7, 17, tyX7, kk_X7, Or.inl (wr_6 _ (List.mem_of_getElem? (i := 1) (by decide +kernel))), by decide, rfl, rfl, rfl, rfl⟩
theorem fd_X7_25 : sj_Fd RX7 25 7 13 1 (.array .int) true := ⟨RX7, TX7, 17, tyX7, kk_X7, Or.inl (wr_6 _ (List.mem_of_getElem? (i := 2) (by decide +kernel))), by decide, rfl, rfl, rfl, rfl⟩
theorem fd_X7_28 : sj_Fd RX7 28 7 15 1 (.array .int) true := ⟨RX7, TX7, 17, tyX7, kk_X7, Or.inl (wr_6 _ (List.mem_of_getElem? (i := 3) (by decide +kernel))), by decide, rfl, rfl, rfl, rfl⟩
theorem fd_X7_31 : sj_Fd RX7 31 7 0 0 .int false := ⟨RX7, TX7, 17, tyX7, kk_X7, Or.inl (wr_11 _ (List.mem_of_getElem? (i := 17) (by decide +kernel))), by decide, rfl, rfl, rfl, rfl⟩
theorem fd_X7_43 : sj_Fd RX7 43 7 4 0 .int false := ⟨RX7, TX7, 17, tyX7, kk_X7, Or.inl (wr_13 _ (List.mem_of_getElem? (i := 8) (by decide +kernel))), by decide, rfl, rfl, rfl, rfl⟩
theorem fd_X7_50 : sj_Fd RX7 50 7 6 0 .boolean false := ⟨RX7, TX7, 17, tyX7, kk_X7, Or.inl (wr_30 _ (List.mem_of_getElem? (i := 7) (by decide +kernel))), by decide, rfl, rfl, rfl, rfl⟩
theorem fd_X7_136 : sj_Fd RX7 136 7 14 0 .int false := ⟨RX7, TX7, 17, tyX7, kk_X7, Or.inl (wr_11 _ (List.mem_of_getElem? (i := 18) (by decide +kernel))), by decide, rfl, rfl, rfl, rfl⟩
theorem fd_X7_139 : sj_Fd RX7 139 7 8 0 .int false := ⟨RX7, TX7, 17, tyX7, kk_X7, Or.inl (wr_11 _ (List.mem_of_getElem? (i := 19) (by decide +kernel))), by decide, rfl, rfl, rfl, rfl⟩
theorem fd_X7_161 : sj_Fd RX7 161 7 9 0 .int false := ⟨RX7, TX7, 17, tyX7, kk_X7, Or.inl (wr_12 _ (List.mem_of_getElem? (i := 4) (by decide +kernel))), by decide, rfl, rfl, rfl, rfl⟩
theorem fd_X7_179 : sj_Fd RX7 179 7 10 0 .int false := ⟨RX7, TX7, 17, tyX7, kk_X7, Or.inl (wr_27 _ (List.mem_of_getElem? (i := 10) (by decide +kernel))), by decide, rfl, rfl, rfl, rfl⟩
theorem fd_X7_182 : sj_Fd RX7 182 7 11 0 .int false := ⟨RX7, TX7, 17, tyX7, kk_X7, Or.inl (wr_27 _ (List.mem_of_getElem? (i := 11) (by decide +kernel))), by decide, rfl, rfl, rfl, rfl⟩
theorem fd_X7_185 : sj_Fd RX7 185 7 12 0 .int false := ⟨RX7, TX7, 17, tyX7, kk_X7, Or.inl (wr_27 _ (List.mem_of_getElem? (i := 12) (by decide +kernel))), by decide, rfl, rfl, rfl, rfl⟩
theorem fd_X7_260 : sj_Fd RX7 260 7 16 2 .long false := ⟨RX7, TX7, 17, tyX7, kk_X7, Or.inl (wr_43 _ (List.mem_of_getElem? (i := 16) (by decide +kernel))), by decide, rfl, rfl, rfl, rfl⟩
abbrev mX2_init : sj_M := (yX2_init, cX2_init, 2, none, 1, 20, 1, 60)
abbrev mX2_copyFrom : sj_M := (yX2_copyFrom, cX2_copyFrom, 3, none, 0, 0, 0, 0)
abbrev mX3_init : sj_M := (yX3_init, cX3_init, 3, none, 2, 41, 4, 122)
abbrev mX1_init : sj_M := (yX1_init, cX1_init, 1, none, 2, 41, 8, 244)
abbrev mX2_put : sj_M := (yX2_put, cX2_put, 3, none, 0, 0, 0, 0)
abbrev mX2_at : sj_M := (yX2_at, cX2_at, 2, some .int, 0, 0, 0, 0)
abbrev mX1_joinTwo : sj_M := (yX1_joinTwo, cX1_joinTwo, 5, none, 1, 22, 0, 0)
abbrev mX1_joinHands : sj_M := (yX1_joinHands, cX1_joinHands, 2, none, 2, 46, 0, 0)
abbrev mX4_init : sj_M := (yX4_init, cX4_init, 2, none, 3, 67, 19, 505)
abbrev mX0_init : sj_M := (yX0_init, cX0_init, 2, none, 4, 88, 116, 3044)
abbrev mX0_newestSlot : sj_M := (yX0_newestSlot, cX0_newestSlot, 1, some (.object "SlantOaths$Table"), 0, 0, 0, 0)
abbrev mX1_takeOver : sj_M := (yX1_takeOver, cX1_takeOver, 2, none, 1, 22, 0, 0)
abbrev mX4_takeOver : sj_M := (yX4_takeOver, cX4_takeOver, 3, none, 2, 43, 0, 0)
abbrev mX0_save : sj_M := (yX0_save, cX0_save, 3, none, 3, 65, 0, 0)
abbrev mX0_bringBack : sj_M := (yX0_bringBack, cX0_bringBack, 3, none, 3, 65, 0, 0)
abbrev mX1_add : sj_M := (yX1_add, cX1_add, 4, none, 3, 67, 0, 0)
abbrev mX2_closeUp : sj_M := (yX2_closeUp, cX2_closeUp, 3, none, 0, 0, 0, 0)
abbrev mX1_takeOut : sj_M := (yX1_takeOut, cX1_takeOut, 2, none, 1, 22, 0, 0)
abbrev mX1_removeAt : sj_M := (yX1_removeAt, cX1_removeAt, 2, none, 3, 67, 0, 0)
abbrev mX1_isOf : sj_M := (yX1_isOf, cX1_isOf, 3, some .boolean, 1, 21, 0, 0)
abbrev mX1_numberWithout : sj_M := (yX1_numberWithout, cX1_numberWithout, 2, some .int, 0, 0, 0, 0)
abbrev mX1_forgetSheet : sj_M := (yX1_forgetSheet, cX1_forgetSheet, 4, some .int, 3, 67, 0, 0)
abbrev mX1_placeOf : sj_M := (yX1_placeOf, cX1_placeOf, 4, some .int, 2, 43, 0, 0)
abbrev mX1_kindOf : sj_M := (yX1_kindOf, cX1_kindOf, 4, some .int, 3, 66, 0, 0)
abbrev mX1_leads : sj_M := (yX1_leads, cX1_leads, 9, some .boolean, 1, 21, 0, 0)
abbrev mX1_holdsTogether : sj_M := (yX1_holdsTogether, cX1_holdsTogether, 2, some .boolean, 2, 49, 0, 0)
abbrev mX1_numberOf : sj_M := (yX1_numberOf, cX1_numberOf, 3, some .int, 3, 70, 0, 0)
abbrev mX1_ofSheet : sj_M := (yX1_ofSheet, cX1_ofSheet, 4, some .int, 2, 43, 0, 0)
abbrev mX1_ofOneHand : sj_M := (yX1_ofOneHand, cX1_ofOneHand, 3, some .int, 1, 21, 0, 0)
abbrev mX1_handOf : sj_M := (yX1_handOf, cX1_handOf, 2, some .int, 1, 21, 0, 0)
abbrev mX1_isInHands : sj_M := (yX1_isInHands, cX1_isInHands, 5, some .boolean, 1, 21, 0, 0)
abbrev mX1_forbidJoining : sj_M := (yX1_forbidJoining, cX1_forbidJoining, 4, some .boolean, 2, 45, 0, 0)
abbrev mX3_numberOf : sj_M := (yX3_numberOf, cX3_numberOf, 3, some .int, 1, 21, 0, 0)
abbrev mX3_total : sj_M := (yX3_total, cX3_total, 4, some .int, 2, 43, 0, 0)
abbrev mJ9_floorDiv_7cf53 : sj_M := (yJ9_floorDiv_7cf53, cJ9_floorDiv_7cf53, 3, some .int, 0, 0, 0, 0)
abbrev mX3_mean : sj_M := (yX3_mean, cX3_mean, 2, some .int, 1, 22, 0, 0)
abbrev mX3_slantRange : sj_M := (yX3_slantRange, cX3_slantRange, 4, some .int, 2, 43, 0, 0)
abbrev mX3_loopHeights : sj_M := (yX3_loopHeights, cX3_loopHeights, 3, some .int, 2, 43, 0, 0)
abbrev mX3_pressureSteps : sj_M := (yX3_pressureSteps, cX3_pressureSteps, 3, some .int, 2, 43, 0, 0)
abbrev mX3_reckonMarks : sj_M := (yX3_reckonMarks, cX3_reckonMarks, 3, none, 3, 66, 0, 0)
abbrev mX3_toldNumber : sj_M := (yX3_toldNumber, cX3_toldNumber, 3, some .int, 2, 43, 0, 0)
abbrev mX3_toldMark : sj_M := (yX3_toldMark, cX3_toldMark, 2, some .int, 1, 21, 0, 0)
abbrev mX6_mix : sj_M := (yX6_mix, cX6_mix, 4, some .long, 0, 0, 0, 0)
abbrev mX3_mixInto : sj_M := (yX3_mixInto, cX3_mixInto, 7, some .long, 3, 65, 0, 0)
abbrev mX4_forgetStop : sj_M := (yX4_forgetStop, cX4_forgetStop, 1, none, 0, 0, 0, 0)
abbrev mX4_sheetAt : sj_M := (yX4_sheetAt, cX4_sheetAt, 3, some (.object "SlantOaths$Sheet"), 0, 0, 0, 0)
abbrev mX4_putDown : sj_M := (yX4_putDown, cX4_putDown, 3, some .int, 1, 22, 0, 0)
abbrev mX4_takeAway : sj_M := (yX4_takeAway, cX4_takeAway, 3, some .int, 4, 90, 0, 0)
abbrev mX4_growOlder : sj_M := (yX4_growOlder, cX4_growOlder, 4, some .int, 1, 22, 0, 0)
abbrev mX4_trembles : sj_M := (yX4_trembles, cX4_trembles, 3, some .boolean, 3, 66, 0, 0)
abbrev mX4_fadedMarks : sj_M := (yX4_fadedMarks, cX4_fadedMarks, 2, some .int, 1, 21, 0, 0)
abbrev mX4_numberOfSheet : sj_M := (yX4_numberOfSheet, cX4_numberOfSheet, 3, some .int, 4, 88, 0, 0)
abbrev mX4_hands : sj_M := (yX4_hands, cX4_hands, 3, some .int, 2, 42, 0, 0)
abbrev mX4_areOfOneHand : sj_M := (yX4_areOfOneHand, cX4_areOfOneHand, 3, some .boolean, 2, 42, 0, 0)
abbrev mX4_mostOfAHand : sj_M := (yX4_mostOfAHand, cX4_mostOfAHand, 5, some .int, 3, 64, 0, 0)
abbrev mX4_tremblingSheets : sj_M := (yX4_tremblingSheets, cX4_tremblingSheets, 3, some .int, 4, 88, 0, 0)
abbrev mX4_allowance : sj_M := (yX4_allowance, cX4_allowance, 2, some .int, 1, 21, 0, 0)
abbrev mX4_agreeing : sj_M := (yX4_agreeing, cX4_agreeing, 11, some .int, 2, 42, 0, 0)
abbrev mJ6_bitCount_0f7a4 : sj_M := (yJ6_bitCount_0f7a4, cJ6_bitCount_0f7a4, 1, some .int, 0, 0, 0, 0)
abbrev mX4_likeness : sj_M := (yX4_likeness, cX4_likeness, 4, some .int, 3, 72, 0, 0)
abbrev mX4_likePairs : sj_M := (yX4_likePairs, cX4_likePairs, 4, some .int, 4, 95, 0, 0)
abbrev mX4_numberOfAll : sj_M := (yX4_numberOfAll, cX4_numberOfAll, 2, some .int, 5, 118, 0, 0)
abbrev mX4_comparison : sj_M := (yX4_comparison, cX4_comparison, 4, some .int, 4, 95, 0, 0)
abbrev mX4_reasonAgainst : sj_M := (yX4_reasonAgainst, cX4_reasonAgainst, 4, some .int, 4, 95, 0, 0)
abbrev mX4_neededTolerance : sj_M := (yX4_neededTolerance, cX4_neededTolerance, 7, some .int, 2, 42, 0, 0)
abbrev mX4_mostAlike : sj_M := (yX4_mostAlike, cX4_mostAlike, 6, some .int, 4, 95, 0, 0)
abbrev mX4_shareOfHands : sj_M := (yX4_shareOfHands, cX4_shareOfHands, 5, some .double, 4, 95, 0, 0)
abbrev mX5_init : sj_M := (yX5_init, cX5_init, 1, none, 2, 41, 10, 305)
abbrev mX5_add : sj_M := (yX5_add, cX5_add, 2, some .int, 1, 22, 0, 0)
abbrev mX5_empty : sj_M := (yX5_empty, cX5_empty, 1, none, 0, 0, 0, 0)
abbrev mX5_mixInto : sj_M := (yX5_mixInto, cX5_mixInto, 6, some .long, 1, 23, 0, 0)
abbrev mX5_begin : sj_M := (yX5_begin, cX5_begin, 1, none, 0, 0, 0, 0)
abbrev mX5_codeHere : sj_M := (yX5_codeHere, cX5_codeHere, 1, some .int, 1, 21, 0, 0)
abbrev mX5_skip : sj_M := (yX5_skip, cX5_skip, 2, some .boolean, 2, 41, 0, 0)
abbrev mX5_digitHere : sj_M := (yX5_digitHere, cX5_digitHere, 2, some .int, 2, 41, 0, 0)
abbrev mX5_readNumber : sj_M := (yX5_readNumber, cX5_readNumber, 5, some .int, 3, 62, 0, 0)
abbrev mX5_need : sj_M := (yX5_need, cX5_need, 2, none, 3, 62, 0, 0)
abbrev mX5_readStroke : sj_M := (yX5_readStroke, cX5_readStroke, 8, none, 4, 86, 0, 0)
abbrev mX5_isComplete : sj_M := (yX5_isComplete, cX5_isComplete, 1, some .boolean, 0, 0, 0, 0)
abbrev mX5_readSheet : sj_M := (yX5_readSheet, cX5_readSheet, 2, some .boolean, 5, 113, 0, 0)
abbrev mX5_readPart : sj_M := (yX5_readPart, cX5_readPart, 4, none, 4, 86, 0, 0)
abbrev mX5_readWorks : sj_M := (yX5_readWorks, cX5_readWorks, 2, some .boolean, 5, 109, 0, 0)
abbrev mX6_init : sj_M := (yX6_init, cX6_init, 1, none, 5, 109, 168, 4388)
abbrev mX6_lay : sj_M := (yX6_lay, cX6_lay, 4, some .int, 6, 134, 5, 125)
abbrev mX6_isThere : sj_M := (yX6_isThere, cX6_isThere, 2, some .boolean, 0, 0, 0, 0)
abbrev mX6_drop : sj_M := (yX6_drop, cX6_drop, 2, some .int, 6, 112, 1, 6)
abbrev mX6_pass : sj_M := (yX6_pass, cX6_pass, 2, some .int, 6, 87, 1, 6)
abbrev mX6_set : sj_M := (yX6_set, cX6_set, 4, some .int, 6, 87, 1, 6)
abbrev mX6_areThere : sj_M := (yX6_areThere, cX6_areThere, 3, some .boolean, 1, 21, 0, 0)
abbrev mX6_swear : sj_M := (yX6_swear, cX6_swear, 4, some .int, 6, 118, 1, 6)
abbrev mX6_recant : sj_M := (yX6_recant, cX6_recant, 4, some .int, 6, 88, 1, 6)
abbrev mX6_append : sj_M := (yX6_append, cX6_append, 2, some .int, 6, 83, 1, 6)
abbrev mX6_clearBuffer : sj_M := (yX6_clearBuffer, cX6_clearBuffer, 2, some .int, 1, 20, 0, 0)
abbrev mX6_firstError : sj_M := (yX6_firstError, cX6_firstError, 2, some .int, 6, 134, 0, 0)
abbrev mX6_swearPart : sj_M := (yX6_swearPart, cX6_swearPart, 5, some .int, 5, 118, 0, 0)
abbrev mX6_doPart : sj_M := (yX6_doPart, cX6_doPart, 5, some .boolean, 6, 142, 0, 0)
abbrev mX6_work : sj_M := (yX6_work, cX6_work, 2, some .int, 7, 166, 1, 6)
abbrev mX6_stopped : sj_M := (yX6_stopped, cX6_stopped, 2, some .int, 6, 83, 1, 6)
abbrev mX6_undo : sj_M := (yX6_undo, cX6_undo, 1, some .int, 6, 87, 1, 6)
abbrev mX6_keep : sj_M := (yX6_keep, cX6_keep, 1, some .int, 3, 65, 0, 0)
abbrev mX6_restore : sj_M := (yX6_restore, cX6_restore, 1, some .int, 6, 87, 1, 6)
abbrev mX6_sheet : sj_M := (yX6_sheet, cX6_sheet, 3, some .int, 6, 110, 1, 6)
abbrev mX6_stroke : sj_M := (yX6_stroke, cX6_stroke, 4, some .int, 6, 83, 1, 6)
abbrev mX6_mark : sj_M := (yX6_mark, cX6_mark, 3, some .int, 6, 83, 1, 6)
abbrev mX6_compare : sj_M := (yX6_compare, cX6_compare, 4, some .int, 6, 118, 1, 6)
abbrev mX6_oath : sj_M := (yX6_oath, cX6_oath, 3, some .int, 6, 92, 1, 6)
abbrev mX6_toldCount : sj_M := (yX6_toldCount, cX6_toldCount, 2, some .int, 6, 139, 0, 0)
abbrev mX6_count : sj_M := (yX6_count, cX6_count, 2, some .int, 7, 160, 1, 6)
abbrev mX6_whyNot : sj_M := (yX6_whyNot, cX6_whyNot, 4, some .int, 6, 118, 1, 6)
abbrev mX6_nearest : sj_M := (yX6_nearest, cX6_nearest, 2, some .int, 6, 120, 1, 6)
abbrev mX6_toleranceFor : sj_M := (yX6_toleranceFor, cX6_toleranceFor, 4, some .int, 6, 83, 1, 6)
abbrev mX6_ifPassed : sj_M := (yX6_ifPassed, cX6_ifPassed, 4, some .int, 6, 95, 1, 6)
abbrev mX6_handShare : sj_M := (yX6_handShare, cX6_handShare, 1, some .double, 5, 119, 0, 0)
abbrev mX6_mixSheet : sj_M := (yX6_mixSheet, cX6_mixSheet, 7, some .long, 5, 120, 0, 0)
abbrev mX6_mixPair : sj_M := (yX6_mixPair, cX6_mixPair, 8, some .long, 5, 118, 0, 0)
abbrev mX6_bitsOf : sj_M := (yX6_bitsOf, cX6_bitsOf, 6, some .long, 0, 0, 0, 0)
abbrev mX6_digest : sj_M := (yX6_digest, cX6_digest, 5, some .long, 7, 160, 0, 0)
abbrev mX7_init : sj_M := (yX7_init, cX7_init, 1, none, 1, 20, 8, 4014)
abbrev mX7_thrown : sj_M := (yX7_thrown, cX7_thrown, 1, some .int, 0, 0, 0, 0)
abbrev mX7_fails : sj_M := (yX7_fails, cX7_fails, 2, some .int, 0, 0, 0, 0)
abbrev mX7_within : sj_M := (yX7_within, cX7_within, 3, some .boolean, 0, 0, 0, 0)
abbrev mX7_sizeOf : sj_M := (yX7_sizeOf, cX7_sizeOf, 1, some .int, 0, 0, 0, 0)
abbrev mX7_isSheet : sj_M := (yX7_isSheet, cX7_isSheet, 2, some .boolean, 1, 22, 0, 0)
abbrev mX7_of : sj_M := (yX7_of, cX7_of, 3, some .int, 0, 0, 0, 0)
abbrev mX7_ofStroke : sj_M := (yX7_ofStroke, cX7_ofStroke, 4, some .int, 1, 22, 0, 0)
abbrev mX7_ofOath : sj_M := (yX7_ofOath, cX7_ofOath, 3, some .int, 0, 0, 0, 0)
abbrev mX7_save : sj_M := (yX7_save, cX7_save, 2, none, 0, 0, 0, 0)
abbrev mX7_undo : sj_M := (yX7_undo, cX7_undo, 2, some .int, 1, 21, 0, 0)
abbrev mX7_keep : sj_M := (yX7_keep, cX7_keep, 2, some .int, 0, 0, 0, 0)
abbrev mX7_restore : sj_M := (yX7_restore, cX7_restore, 2, some .int, 1, 21, 0, 0)
abbrev mX7_putAside : sj_M := (yX7_putAside, cX7_putAside, 2, none, 0, 0, 0, 0)
abbrev mX7_takeBack : sj_M := (yX7_takeBack, cX7_takeBack, 2, none, 0, 0, 0, 0)
abbrev mX7_divided : sj_M := (yX7_divided, cX7_divided, 2, some .int, 0, 0, 0, 0)
abbrev mX7_sumOf : sj_M := (yX7_sumOf, cX7_sumOf, 5, some .int, 2, 45, 0, 0)
abbrev mX7_spread : sj_M := (yX7_spread, cX7_spread, 6, some .int, 2, 45, 0, 0)
abbrev mX7_loopHeight : sj_M := (yX7_loopHeight, cX7_loopHeight, 5, some .int, 3, 69, 0, 0)
abbrev mX7_unrest : sj_M := (yX7_unrest, cX7_unrest, 5, some .int, 2, 45, 0, 0)
abbrev mX7_markOf : sj_M := (yX7_markOf, cX7_markOf, 3, some .int, 4, 93, 0, 0)
abbrev mX7_hasFaded : sj_M := (yX7_hasFaded, cX7_hasFaded, 2, some .boolean, 1, 22, 0, 0)
abbrev mX7_isGone : sj_M := (yX7_isGone, cX7_isGone, 4, some .boolean, 2, 43, 0, 0)
abbrev mX7_differ : sj_M := (yX7_differ, cX7_differ, 4, some .int, 5, 115, 0, 0)
abbrev mX7_agreeing : sj_M := (yX7_agreeing, cX7_agreeing, 5, some .int, 6, 138, 0, 0)
abbrev mX7_ones : sj_M := (yX7_ones, cX7_ones, 3, some .int, 0, 0, 0, 0)
abbrev mX7_likeness : sj_M := (yX7_likeness, cX7_likeness, 3, some .int, 7, 162, 0, 0)
abbrev mX7_trembles : sj_M := (yX7_trembles, cX7_trembles, 2, some .boolean, 3, 69, 0, 0)
abbrev mX7_join : sj_M := (yX7_join, cX7_join, 7, none, 0, 0, 0, 0)
abbrev mX7_layHands : sj_M := (yX7_layHands, cX7_layHands, 3, none, 1, 26, 0, 0)
abbrev mX7_hands : sj_M := (yX7_hands, cX7_hands, 3, some .int, 2, 48, 0, 0)
abbrev mX7_areOfOne : sj_M := (yX7_areOfOne, cX7_areOfOne, 3, some .boolean, 2, 48, 0, 0)
abbrev mX7_findOath : sj_M := (yX7_findOath, cX7_findOath, 6, some .int, 1, 22, 0, 0)
abbrev mX7_breaks : sj_M := (yX7_breaks, cX7_breaks, 5, some .boolean, 2, 48, 0, 0)
abbrev mX7_whyNotSworn : sj_M := (yX7_whyNotSworn, cX7_whyNotSworn, 4, some .int, 8, 184, 0, 0)
abbrev mX7_swears : sj_M := (yX7_swears, cX7_swears, 5, some .int, 3, 70, 0, 0)
abbrev mX7_dropOath : sj_M := (yX7_dropOath, cX7_dropOath, 3, none, 0, 0, 0, 0)
abbrev mX7_holds : sj_M := (yX7_holds, cX7_holds, 2, some .boolean, 2, 48, 0, 0)
abbrev mX7_drops : sj_M := (yX7_drops, cX7_drops, 4, some .int, 1, 22, 0, 0)
abbrev mX7_passes : sj_M := (yX7_passes, cX7_passes, 5, some .int, 1, 22, 0, 0)
abbrev mX7_next : sj_M := (yX7_next, cX7_next, 1, some .int, 0, 0, 0, 0)
abbrev mX7_takes : sj_M := (yX7_takes, cX7_takes, 3, some .boolean, 1, 20, 0, 0)
abbrev mX7_readNumber : sj_M := (yX7_readNumber, cX7_readNumber, 4, some .int, 1, 22, 0, 0)
abbrev mX7_readsStroke : sj_M := (yX7_readsStroke, cX7_readsStroke, 9, some .boolean, 2, 45, 0, 0)
abbrev mX7_findSheetError : sj_M := (yX7_findSheetError, cX7_findSheetError, 1, some .int, 3, 73, 0, 0)
abbrev mX7_isSheetText : sj_M := (yX7_isSheetText, cX7_isSheetText, 1, some .boolean, 4, 93, 0, 0)
abbrev mX7_lay : sj_M := (yX7_lay, cX7_lay, 4, some .int, 5, 113, 0, 0)
abbrev mX7_drop : sj_M := (yX7_drop, cX7_drop, 2, some .int, 2, 45, 0, 0)
abbrev mX7_pass : sj_M := (yX7_pass, cX7_pass, 2, some .int, 2, 46, 0, 0)
abbrev mX7_mostOf : sj_M := (yX7_mostOf, cX7_mostOf, 1, some .int, 0, 0, 0, 0)
abbrev mX7_set : sj_M := (yX7_set, cX7_set, 4, some .int, 1, 22, 0, 0)
abbrev mX7_swear : sj_M := (yX7_swear, cX7_swear, 4, some .int, 9, 207, 0, 0)
abbrev mX7_recant : sj_M := (yX7_recant, cX7_recant, 4, some .int, 2, 47, 0, 0)
abbrev mX7_append : sj_M := (yX7_append, cX7_append, 2, some .int, 1, 22, 0, 0)
abbrev mX7_clearBuffer : sj_M := (yX7_clearBuffer, cX7_clearBuffer, 2, some .int, 0, 0, 0, 0)
abbrev mX7_readsPart : sj_M := (yX7_readsPart, cX7_readsPart, 1, some .boolean, 2, 45, 0, 0)
abbrev mX7_findWorksError : sj_M := (yX7_findWorksError, cX7_findWorksError, 1, some .int, 3, 65, 0, 0)
abbrev mX7_firstError : sj_M := (yX7_firstError, cX7_firstError, 3, some .int, 4, 93, 0, 0)
abbrev mX7_whyNotPart : sj_M := (yX7_whyNotPart, cX7_whyNotPart, 1, some .int, 9, 207, 0, 0)
abbrev mX7_doPart : sj_M := (yX7_doPart, cX7_doPart, 1, none, 4, 94, 0, 0)
abbrev mX7_work : sj_M := (yX7_work, cX7_work, 3, some .int, 10, 227, 0, 0)
abbrev mX7_stopped : sj_M := (yX7_stopped, cX7_stopped, 2, some .int, 1, 22, 0, 0)
abbrev mX7_handOf : sj_M := (yX7_handOf, cX7_handOf, 2, some .int, 2, 48, 0, 0)
abbrev mX7_oathsOf : sj_M := (yX7_oathsOf, cX7_oathsOf, 4, some .int, 1, 22, 0, 0)
abbrev mX7_tellsSheet : sj_M := (yX7_tellsSheet, cX7_tellsSheet, 3, some .int, 4, 90, 0, 0)
abbrev mX7_sheet : sj_M := (yX7_sheet, cX7_sheet, 3, some .int, 5, 112, 0, 0)
abbrev mX7_tellsStroke : sj_M := (yX7_tellsStroke, cX7_tellsStroke, 4, some .int, 2, 45, 0, 0)
abbrev mX7_stroke : sj_M := (yX7_stroke, cX7_stroke, 4, some .int, 3, 68, 0, 0)
abbrev mX7_mark : sj_M := (yX7_mark, cX7_mark, 3, some .int, 5, 115, 0, 0)
abbrev mX7_tellsOathOf : sj_M := (yX7_tellsOathOf, cX7_tellsOathOf, 4, some .int, 2, 47, 0, 0)
abbrev mX7_compares : sj_M := (yX7_compares, cX7_compares, 4, some .int, 8, 184, 0, 0)
abbrev mX7_compare : sj_M := (yX7_compare, cX7_compare, 4, some .int, 9, 207, 0, 0)
abbrev mX7_tellsOath : sj_M := (yX7_tellsOath, cX7_tellsOath, 3, some .int, 3, 69, 0, 0)
abbrev mX7_oath : sj_M := (yX7_oath, cX7_oath, 3, some .int, 4, 91, 0, 0)
abbrev mX7_likeOaths : sj_M := (yX7_likeOaths, cX7_likeOaths, 3, some .int, 1, 22, 0, 0)
abbrev mX7_mostOfHand : sj_M := (yX7_mostOfHand, cX7_mostOfHand, 5, some .int, 2, 48, 0, 0)
abbrev mX7_trembling : sj_M := (yX7_trembling, cX7_trembling, 3, some .int, 4, 90, 0, 0)
abbrev mX7_likePairs : sj_M := (yX7_likePairs, cX7_likePairs, 4, some .int, 8, 184, 0, 0)
abbrev mX7_tellsCount : sj_M := (yX7_tellsCount, cX7_tellsCount, 2, some .int, 9, 207, 0, 0)
abbrev mX7_count : sj_M := (yX7_count, cX7_count, 2, some .int, 10, 228, 0, 0)
abbrev mX7_whyNot : sj_M := (yX7_whyNot, cX7_whyNot, 4, some .int, 9, 207, 0, 0)
abbrev mX7_mostAlike : sj_M := (yX7_mostAlike, cX7_mostAlike, 5, some .int, 8, 184, 0, 0)
abbrev mX7_nearest : sj_M := (yX7_nearest, cX7_nearest, 2, some .int, 9, 208, 0, 0)
abbrev mX7_tolerance : sj_M := (yX7_tolerance, cX7_tolerance, 5, some .int, 6, 138, 0, 0)
abbrev mX7_toleranceFor : sj_M := (yX7_toleranceFor, cX7_toleranceFor, 4, some .int, 7, 162, 0, 0)
abbrev mX7_wouldPass : sj_M := (yX7_wouldPass, cX7_wouldPass, 6, some .int, 8, 184, 0, 0)
abbrev mX7_ifPassed : sj_M := (yX7_ifPassed, cX7_ifPassed, 4, some .int, 9, 209, 0, 0)
abbrev mX7_share : sj_M := (yX7_share, cX7_share, 6, some .double, 8, 184, 0, 0)
abbrev mX7_handShare : sj_M := (yX7_handShare, cX7_handShare, 1, some .double, 9, 209, 0, 0)
abbrev mX7_mix : sj_M := (yX7_mix, cX7_mix, 3, none, 0, 0, 0, 0)
abbrev mX7_mixSheet : sj_M := (yX7_mixSheet, cX7_mixSheet, 4, none, 9, 208, 0, 0)
abbrev mJxe99ae_isNaN_b9ae7 : sj_M := (yJxe99ae_isNaN_b9ae7, cJxe99ae_isNaN_b9ae7, 2, some .boolean, 0, 0, 0, 0)
abbrev mJxe99ae_doubleToLongBits_ccdee : sj_M := (yJxe99ae_doubleToLongBits_ccdee, cJxe99ae_doubleToLongBits_ccdee, 2, some .long, 1, 21, 0, 0)
abbrev mX7_digest : sj_M := (yX7_digest, cX7_digest, 2, some .long, 10, 231, 0, 0)
abbrev mJ9_abs_0f7a4 : sj_M := (yJ9_abs_0f7a4, cJ9_abs_0f7a4, 1, some .int, 0, 0, 0, 0)
abbrev mJ9_max_7cf53 : sj_M := (yJ9_max_7cf53, cJ9_max_7cf53, 2, some .int, 0, 0, 0, 0)
abbrev mJ9_min_7cf53 : sj_M := (yJ9_min_7cf53, cJ9_min_7cf53, 2, some .int, 0, 0, 0, 0)
abbrev mL_lay : sj_M := (yL_lay, cL_lay, 4, some .int, 7, 157, 5, 125)
abbrev mL_drop : sj_M := (yL_drop, cL_drop, 4, some .int, 7, 133, 1, 6)
abbrev mL_pass : sj_M := (yL_pass, cL_pass, 4, some .int, 7, 108, 1, 6)
abbrev mL_set : sj_M := (yL_set, cL_set, 5, some .int, 7, 110, 1, 6)
abbrev mL_swear : sj_M := (yL_swear, cL_swear, 6, some .int, 7, 141, 1, 6)
abbrev mL_recant : sj_M := (yL_recant, cL_recant, 5, some .int, 7, 111, 1, 6)
abbrev mL_append : sj_M := (yL_append, cL_append, 4, some .int, 7, 104, 1, 6)
abbrev mL_work : sj_M := (yL_work, cL_work, 3, some .int, 8, 187, 1, 6)
abbrev mL_stopped : sj_M := (yL_stopped, cL_stopped, 4, some .int, 7, 104, 1, 6)
abbrev mL_undo : sj_M := (yL_undo, cL_undo, 3, some .int, 7, 107, 1, 6)
abbrev mL_restore : sj_M := (yL_restore, cL_restore, 3, some .int, 7, 107, 1, 6)
abbrev mL_sheet : sj_M := (yL_sheet, cL_sheet, 5, some .int, 7, 132, 1, 6)
abbrev mL_stroke : sj_M := (yL_stroke, cL_stroke, 6, some .int, 7, 106, 1, 6)
abbrev mL_mark : sj_M := (yL_mark, cL_mark, 5, some .int, 7, 105, 1, 6)
abbrev mL_compare : sj_M := (yL_compare, cL_compare, 6, some .int, 7, 141, 1, 6)
abbrev mL_oath : sj_M := (yL_oath, cL_oath, 5, some .int, 7, 114, 1, 6)
abbrev mL_count : sj_M := (yL_count, cL_count, 4, some .int, 8, 181, 1, 6)
abbrev mL_whyNot : sj_M := (yL_whyNot, cL_whyNot, 6, some .int, 7, 141, 1, 6)
abbrev mL_nearest : sj_M := (yL_nearest, cL_nearest, 4, some .int, 7, 141, 1, 6)
abbrev mL_toleranceFor : sj_M := (yL_toleranceFor, cL_toleranceFor, 6, some .int, 7, 106, 1, 6)
abbrev mL_ifPassed : sj_M := (yL_ifPassed, cL_ifPassed, 6, some .int, 7, 118, 1, 6)
theorem cv_Jxe99ae_122 : sj_Vs RJxe99ae 122 mJxe99ae_isNaN_b9ae7 1 := ⟨wr_44 _ (List.mem_of_getElem? (i := 11) (by decide +kernel)), wr_44 _ (List.mem_of_getElem? (i := 12) (by decide +kernel)), wr_44 _ (List.mem_of_getElem? (i := 4) (by decide +kernel)), wr_44 _ (List.mem_of_getElem? (i := 13) (by decide +kernel)), ⟨by decide +kernel, by decide +kernel⟩, by decide +kernel⟩
theorem cv_L_7 : sj_V RL 7 mX6_lay 1 := ⟨wr_6 _ (List.mem_of_getElem? (i := 10) (by decide +kernel)), wr_6 _ (List.mem_of_getElem? (i := 11) (by decide +kernel)), wr_6 _ (List.mem_of_getElem? (i := 12) (by decide +kernel)), wr_1 _ (List.mem_of_getElem? (i := 2) (by decide +kernel)), wr_6 _ (List.mem_of_getElem? (i := 13) (by decide +kernel)), ⟨by decide +kernel, by decide +kernel⟩, by decide +kernel⟩
theorem cv_L_17 : sj_V RL 17 mX6_drop 1 := ⟨wr_13 _ (List.mem_of_getElem? (i := 17) (by decide +kernel)), wr_13 _ (List.mem_of_getElem? (i := 18) (by decide +kernel)), wr_13 _ (List.mem_of_getElem? (i := 19) (by decide +kernel)), wr_1 _ (List.mem_of_getElem? (i := 2) (by decide +kernel)), wr_13 _ (List.mem_of_getElem? (i := 20) (by decide +kernel)), ⟨by decide +kernel, by decide +kernel⟩, by decide +kernel⟩
theorem cv_L_22 : sj_V RL 22 mX6_pass 1 := ⟨wr_16 _ (List.mem_of_getElem? (i := 3) (by decide +kernel)), wr_16 _ (List.mem_of_getElem? (i := 4) (by decide +kernel)), wr_16 _ (List.mem_of_getElem? (i := 5) (by decide +kernel)), wr_1 _ (List.mem_of_getElem? (i := 2) (by decide +kernel)), wr_16 _ (List.mem_of_getElem? (i := 6) (by decide +kernel)), ⟨by decide +kernel, by decide +kernel⟩, by decide +kernel⟩
theorem cv_L_25 : sj_V RL 25 mX6_set 2 := ⟨wr_17 _ (List.mem_of_getElem? (i := 5) (by decide +kernel)), wr_17 _ (List.mem_of_getElem? (i := 6) (by decide +kernel)), wr_17 _ (List.mem_of_getElem? (i := 7) (by decide +kernel)), wr_1 _ (List.mem_of_getElem? (i := 2) (by decide +kernel)), wr_17 _ (List.mem_of_getElem? (i := 8) (by decide +kernel)), ⟨by decide +kernel, by decide +kernel⟩, by decide +kernel⟩
theorem cv_L_29 : sj_V RL 29 mX6_swear 3 := ⟨wr_17 _ (List.mem_of_getElem? (i := 22) (by decide +kernel)), wr_17 _ (List.mem_of_getElem? (i := 23) (by decide +kernel)), wr_18 _ (List.mem_of_getElem? (i := 0) (by decide +kernel)), wr_1 _ (List.mem_of_getElem? (i := 2) (by decide +kernel)), wr_18 _ (List.mem_of_getElem? (i := 1) (by decide +kernel)), ⟨by decide +kernel, by decide +kernel⟩, by decide +kernel⟩
theorem cv_L_33 : sj_V RL 33 mX6_recant 2 := ⟨wr_24 _ (List.mem_of_getElem? (i := 22) (by decide +kernel)), wr_24 _ (List.mem_of_getElem? (i := 23) (by decide +kernel)), wr_25 _ (List.mem_of_getElem? (i := 0) (by decide +kernel)), wr_1 _ (List.mem_of_getElem? (i := 2) (by decide +kernel)), wr_25 _ (List.mem_of_getElem? (i := 1) (by decide +kernel)), ⟨by decide +kernel, by decide +kernel⟩, by decide +kernel⟩
theorem cv_L_36 : sj_V RL 36 mX6_append 1 := ⟨wr_25 _ (List.mem_of_getElem? (i := 14) (by decide +kernel)), wr_25 _ (List.mem_of_getElem? (i := 15) (by decide +kernel)), wr_25 _ (List.mem_of_getElem? (i := 16) (by decide +kernel)), wr_1 _ (List.mem_of_getElem? (i := 2) (by decide +kernel)), wr_25 _ (List.mem_of_getElem? (i := 17) (by decide +kernel)), ⟨by decide +kernel, by decide +kernel⟩, by decide +kernel⟩
theorem cv_L_39 : sj_V RL 39 mX6_work 0 := ⟨wr_27 _ (List.mem_of_getElem? (i := 16) (by decide +kernel)), wr_27 _ (List.mem_of_getElem? (i := 17) (by decide +kernel)), wr_27 _ (List.mem_of_getElem? (i := 18) (by decide +kernel)), wr_1 _ (List.mem_of_getElem? (i := 2) (by decide +kernel)), wr_27 _ (List.mem_of_getElem? (i := 19) (by decide +kernel)), ⟨by decide +kernel, by decide +kernel⟩, by decide +kernel⟩
theorem cv_L_43 : sj_V RL 43 mX6_stopped 1 := ⟨wr_28 _ (List.mem_of_getElem? (i := 23) (by decide +kernel)), wr_29 _ (List.mem_of_getElem? (i := 0) (by decide +kernel)), wr_29 _ (List.mem_of_getElem? (i := 1) (by decide +kernel)), wr_1 _ (List.mem_of_getElem? (i := 2) (by decide +kernel)), wr_29 _ (List.mem_of_getElem? (i := 2) (by decide +kernel)), ⟨by decide +kernel, by decide +kernel⟩, by decide +kernel⟩
theorem cv_L_46 : sj_V RL 46 mX6_undo 0 := ⟨wr_29 _ (List.mem_of_getElem? (i := 10) (by decide +kernel)), wr_29 _ (List.mem_of_getElem? (i := 11) (by decide +kernel)), wr_29 _ (List.mem_of_getElem? (i := 12) (by decide +kernel)), wr_1 _ (List.mem_of_getElem? (i := 2) (by decide +kernel)), wr_29 _ (List.mem_of_getElem? (i := 13) (by decide +kernel)), ⟨by decide +kernel, by decide +kernel⟩, by decide +kernel⟩
theorem cv_L_49 : sj_V RL 49 mX6_restore 0 := ⟨wr_30 _ (List.mem_of_getElem? (i := 11) (by decide +kernel)), wr_30 _ (List.mem_of_getElem? (i := 12) (by decide +kernel)), wr_30 _ (List.mem_of_getElem? (i := 13) (by decide +kernel)), wr_1 _ (List.mem_of_getElem? (i := 2) (by decide +kernel)), wr_30 _ (List.mem_of_getElem? (i := 14) (by decide +kernel)), ⟨by decide +kernel, by decide +kernel⟩, by decide +kernel⟩
theorem cv_L_52 : sj_V RL 52 mX6_sheet 2 := ⟨wr_30 _ (List.mem_of_getElem? (i := 22) (by decide +kernel)), wr_30 _ (List.mem_of_getElem? (i := 23) (by decide +kernel)), wr_31 _ (List.mem_of_getElem? (i := 0) (by decide +kernel)), wr_1 _ (List.mem_of_getElem? (i := 2) (by decide +kernel)), wr_31 _ (List.mem_of_getElem? (i := 1) (by decide +kernel)), ⟨by decide +kernel, by decide +kernel⟩, by decide +kernel⟩
theorem cv_L_55 : sj_V RL 55 mX6_stroke 3 := ⟨wr_32 _ (List.mem_of_getElem? (i := 5) (by decide +kernel)), wr_32 _ (List.mem_of_getElem? (i := 6) (by decide +kernel)), wr_32 _ (List.mem_of_getElem? (i := 7) (by decide +kernel)), wr_1 _ (List.mem_of_getElem? (i := 2) (by decide +kernel)), wr_32 _ (List.mem_of_getElem? (i := 8) (by decide +kernel)), ⟨by decide +kernel, by decide +kernel⟩, by decide +kernel⟩
theorem cv_L_59 : sj_V RL 59 mX6_mark 2 := ⟨wr_33 _ (List.mem_of_getElem? (i := 1) (by decide +kernel)), wr_33 _ (List.mem_of_getElem? (i := 2) (by decide +kernel)), wr_33 _ (List.mem_of_getElem? (i := 3) (by decide +kernel)), wr_1 _ (List.mem_of_getElem? (i := 2) (by decide +kernel)), wr_33 _ (List.mem_of_getElem? (i := 4) (by decide +kernel)), ⟨by decide +kernel, by decide +kernel⟩, by decide +kernel⟩
theorem cv_L_62 : sj_V RL 62 mX6_compare 3 := ⟨wr_33 _ (List.mem_of_getElem? (i := 16) (by decide +kernel)), wr_33 _ (List.mem_of_getElem? (i := 17) (by decide +kernel)), wr_33 _ (List.mem_of_getElem? (i := 18) (by decide +kernel)), wr_1 _ (List.mem_of_getElem? (i := 2) (by decide +kernel)), wr_33 _ (List.mem_of_getElem? (i := 19) (by decide +kernel)), ⟨by decide +kernel, by decide +kernel⟩, by decide +kernel⟩
theorem cv_L_65 : sj_V RL 65 mX6_oath 2 := ⟨wr_35 _ (List.mem_of_getElem? (i := 0) (by decide +kernel)), wr_35 _ (List.mem_of_getElem? (i := 1) (by decide +kernel)), wr_35 _ (List.mem_of_getElem? (i := 2) (by decide +kernel)), wr_1 _ (List.mem_of_getElem? (i := 2) (by decide +kernel)), wr_35 _ (List.mem_of_getElem? (i := 3) (by decide +kernel)), ⟨by decide +kernel, by decide +kernel⟩, by decide +kernel⟩
theorem cv_L_68 : sj_V RL 68 mX6_count 1 := ⟨wr_36 _ (List.mem_of_getElem? (i := 4) (by decide +kernel)), wr_36 _ (List.mem_of_getElem? (i := 5) (by decide +kernel)), wr_36 _ (List.mem_of_getElem? (i := 6) (by decide +kernel)), wr_1 _ (List.mem_of_getElem? (i := 2) (by decide +kernel)), wr_36 _ (List.mem_of_getElem? (i := 7) (by decide +kernel)), ⟨by decide +kernel, by decide +kernel⟩, by decide +kernel⟩
theorem cv_L_71 : sj_V RL 71 mX6_whyNot 3 := ⟨wr_38 _ (List.mem_of_getElem? (i := 12) (by decide +kernel)), wr_38 _ (List.mem_of_getElem? (i := 13) (by decide +kernel)), wr_38 _ (List.mem_of_getElem? (i := 14) (by decide +kernel)), wr_1 _ (List.mem_of_getElem? (i := 2) (by decide +kernel)), wr_38 _ (List.mem_of_getElem? (i := 15) (by decide +kernel)), ⟨by decide +kernel, by decide +kernel⟩, by decide +kernel⟩
theorem cv_L_74 : sj_V RL 74 mX6_nearest 1 := ⟨wr_38 _ (List.mem_of_getElem? (i := 23) (by decide +kernel)), wr_39 _ (List.mem_of_getElem? (i := 0) (by decide +kernel)), wr_39 _ (List.mem_of_getElem? (i := 1) (by decide +kernel)), wr_1 _ (List.mem_of_getElem? (i := 2) (by decide +kernel)), wr_39 _ (List.mem_of_getElem? (i := 2) (by decide +kernel)), ⟨by decide +kernel, by decide +kernel⟩, by decide +kernel⟩
theorem cv_L_77 : sj_V RL 77 mX6_toleranceFor 3 := ⟨wr_39 _ (List.mem_of_getElem? (i := 18) (by decide +kernel)), wr_39 _ (List.mem_of_getElem? (i := 19) (by decide +kernel)), wr_39 _ (List.mem_of_getElem? (i := 20) (by decide +kernel)), wr_1 _ (List.mem_of_getElem? (i := 2) (by decide +kernel)), wr_39 _ (List.mem_of_getElem? (i := 21) (by decide +kernel)), ⟨by decide +kernel, by decide +kernel⟩, by decide +kernel⟩
theorem cv_L_80 : sj_V RL 80 mX6_ifPassed 3 := ⟨wr_40 _ (List.mem_of_getElem? (i := 13) (by decide +kernel)), wr_40 _ (List.mem_of_getElem? (i := 14) (by decide +kernel)), wr_40 _ (List.mem_of_getElem? (i := 15) (by decide +kernel)), wr_1 _ (List.mem_of_getElem? (i := 2) (by decide +kernel)), wr_40 _ (List.mem_of_getElem? (i := 16) (by decide +kernel)), ⟨by decide +kernel, by decide +kernel⟩, by decide +kernel⟩
theorem cv_L_92 : sj_V RL 92 mX7_lay 1 := ⟨wr_11 _ (List.mem_of_getElem? (i := 13) (by decide +kernel)), wr_11 _ (List.mem_of_getElem? (i := 14) (by decide +kernel)), wr_11 _ (List.mem_of_getElem? (i := 15) (by decide +kernel)), wr_1 _ (List.mem_of_getElem? (i := 5) (by decide +kernel)), wr_11 _ (List.mem_of_getElem? (i := 16) (by decide +kernel)), ⟨by decide +kernel, by decide +kernel⟩, by decide +kernel⟩
theorem cv_L_93 : sj_V RL 93 mX7_thrown 0 := ⟨wr_13 _ (List.mem_of_getElem? (i := 9) (by decide +kernel)), wr_13 _ (List.mem_of_getElem? (i := 10) (by decide +kernel)), wr_13 _ (List.mem_of_getElem? (i := 11) (by decide +kernel)), wr_1 _ (List.mem_of_getElem? (i := 5) (by decide +kernel)), wr_13 _ (List.mem_of_getElem? (i := 12) (by decide +kernel)), ⟨by decide +kernel, by decide +kernel⟩, by decide +kernel⟩
theorem cv_L_98 : sj_V RL 98 mX7_drop 1 := ⟨wr_15 _ (List.mem_of_getElem? (i := 4) (by decide +kernel)), wr_15 _ (List.mem_of_getElem? (i := 5) (by decide +kernel)), wr_15 _ (List.mem_of_getElem? (i := 6) (by decide +kernel)), wr_1 _ (List.mem_of_getElem? (i := 5) (by decide +kernel)), wr_15 _ (List.mem_of_getElem? (i := 7) (by decide +kernel)), ⟨by decide +kernel, by decide +kernel⟩, by decide +kernel⟩
theorem cv_L_101 : sj_V RL 101 mX7_pass 1 := ⟨wr_16 _ (List.mem_of_getElem? (i := 14) (by decide +kernel)), wr_16 _ (List.mem_of_getElem? (i := 15) (by decide +kernel)), wr_16 _ (List.mem_of_getElem? (i := 16) (by decide +kernel)), wr_1 _ (List.mem_of_getElem? (i := 5) (by decide +kernel)), wr_16 _ (List.mem_of_getElem? (i := 17) (by decide +kernel)), ⟨by decide +kernel, by decide +kernel⟩, by decide +kernel⟩
theorem cv_L_105 : sj_V RL 105 mX7_set 2 := ⟨wr_17 _ (List.mem_of_getElem? (i := 12) (by decide +kernel)), wr_17 _ (List.mem_of_getElem? (i := 13) (by decide +kernel)), wr_17 _ (List.mem_of_getElem? (i := 14) (by decide +kernel)), wr_1 _ (List.mem_of_getElem? (i := 5) (by decide +kernel)), wr_17 _ (List.mem_of_getElem? (i := 15) (by decide +kernel)), ⟨by decide +kernel, by decide +kernel⟩, by decide +kernel⟩
theorem cv_L_109 : sj_V RL 109 mX7_swear 3 := ⟨wr_20 _ (List.mem_of_getElem? (i := 22) (by decide +kernel)), wr_20 _ (List.mem_of_getElem? (i := 23) (by decide +kernel)), wr_21 _ (List.mem_of_getElem? (i := 0) (by decide +kernel)), wr_1 _ (List.mem_of_getElem? (i := 5) (by decide +kernel)), wr_21 _ (List.mem_of_getElem? (i := 1) (by decide +kernel)), ⟨by decide +kernel, by decide +kernel⟩, by decide +kernel⟩
theorem cv_L_112 : sj_V RL 112 mX7_recant 2 := ⟨wr_25 _ (List.mem_of_getElem? (i := 7) (by decide +kernel)), wr_25 _ (List.mem_of_getElem? (i := 8) (by decide +kernel)), wr_25 _ (List.mem_of_getElem? (i := 9) (by decide +kernel)), wr_1 _ (List.mem_of_getElem? (i := 5) (by decide +kernel)), wr_25 _ (List.mem_of_getElem? (i := 10) (by decide +kernel)), ⟨by decide +kernel, by decide +kernel⟩, by decide +kernel⟩
theorem cv_L_115 : sj_V RL 115 mX7_append 1 := ⟨wr_25 _ (List.mem_of_getElem? (i := 22) (by decide +kernel)), wr_25 _ (List.mem_of_getElem? (i := 23) (by decide +kernel)), wr_26 _ (List.mem_of_getElem? (i := 0) (by decide +kernel)), wr_1 _ (List.mem_of_getElem? (i := 5) (by decide +kernel)), wr_26 _ (List.mem_of_getElem? (i := 1) (by decide +kernel)), ⟨by decide +kernel, by decide +kernel⟩, by decide +kernel⟩
theorem cv_L_116 : sj_V RL 116 mX6_clearBuffer 0 := ⟨wr_26 _ (List.mem_of_getElem? (i := 2) (by decide +kernel)), wr_26 _ (List.mem_of_getElem? (i := 3) (by decide +kernel)), wr_26 _ (List.mem_of_getElem? (i := 4) (by decide +kernel)), wr_1 _ (List.mem_of_getElem? (i := 2) (by decide +kernel)), wr_26 _ (List.mem_of_getElem? (i := 5) (by decide +kernel)), ⟨by decide +kernel, by decide +kernel⟩, by decide +kernel⟩
theorem cv_L_119 : sj_V RL 119 mX7_clearBuffer 0 := ⟨wr_26 _ (List.mem_of_getElem? (i := 6) (by decide +kernel)), wr_26 _ (List.mem_of_getElem? (i := 7) (by decide +kernel)), wr_26 _ (List.mem_of_getElem? (i := 8) (by decide +kernel)), wr_1 _ (List.mem_of_getElem? (i := 5) (by decide +kernel)), wr_26 _ (List.mem_of_getElem? (i := 9) (by decide +kernel)), ⟨by decide +kernel, by decide +kernel⟩, by decide +kernel⟩
theorem cv_L_120 : sj_V RL 120 mX6_firstError 1 := ⟨wr_26 _ (List.mem_of_getElem? (i := 10) (by decide +kernel)), wr_26 _ (List.mem_of_getElem? (i := 11) (by decide +kernel)), wr_26 _ (List.mem_of_getElem? (i := 12) (by decide +kernel)), wr_1 _ (List.mem_of_getElem? (i := 2) (by decide +kernel)), wr_26 _ (List.mem_of_getElem? (i := 13) (by decide +kernel)), ⟨by decide +kernel, by decide +kernel⟩, by decide +kernel⟩
theorem cv_L_124 : sj_V RL 124 mX7_firstError 1 := ⟨wr_26 _ (List.mem_of_getElem? (i := 22) (by decide +kernel)), wr_26 _ (List.mem_of_getElem? (i := 23) (by decide +kernel)), wr_27 _ (List.mem_of_getElem? (i := 0) (by decide +kernel)), wr_1 _ (List.mem_of_getElem? (i := 5) (by decide +kernel)), wr_27 _ (List.mem_of_getElem? (i := 1) (by decide +kernel)), ⟨by decide +kernel, by decide +kernel⟩, by decide +kernel⟩
theorem cv_L_128 : sj_V RL 128 mX7_work 0 := ⟨wr_28 _ (List.mem_of_getElem? (i := 8) (by decide +kernel)), wr_28 _ (List.mem_of_getElem? (i := 9) (by decide +kernel)), wr_28 _ (List.mem_of_getElem? (i := 10) (by decide +kernel)), wr_1 _ (List.mem_of_getElem? (i := 5) (by decide +kernel)), wr_28 _ (List.mem_of_getElem? (i := 11) (by decide +kernel)), ⟨by decide +kernel, by decide +kernel⟩, by decide +kernel⟩
theorem cv_L_131 : sj_V RL 131 mX7_stopped 1 := ⟨wr_29 _ (List.mem_of_getElem? (i := 3) (by decide +kernel)), wr_29 _ (List.mem_of_getElem? (i := 4) (by decide +kernel)), wr_29 _ (List.mem_of_getElem? (i := 5) (by decide +kernel)), wr_1 _ (List.mem_of_getElem? (i := 5) (by decide +kernel)), wr_29 _ (List.mem_of_getElem? (i := 6) (by decide +kernel)), ⟨by decide +kernel, by decide +kernel⟩, by decide +kernel⟩
theorem cv_L_134 : sj_V RL 134 mX7_undo 0 := ⟨wr_29 _ (List.mem_of_getElem? (i := 18) (by decide +kernel)), wr_29 _ (List.mem_of_getElem? (i := 19) (by decide +kernel)), wr_29 _ (List.mem_of_getElem? (i := 20) (by decide +kernel)), wr_1 _ (List.mem_of_getElem? (i := 5) (by decide +kernel)), wr_29 _ (List.mem_of_getElem? (i := 21) (by decide +kernel)), ⟨by decide +kernel, by decide +kernel⟩, by decide +kernel⟩
theorem cv_L_135 : sj_V RL 135 mX6_keep 0 := ⟨wr_29 _ (List.mem_of_getElem? (i := 22) (by decide +kernel)), wr_29 _ (List.mem_of_getElem? (i := 23) (by decide +kernel)), wr_30 _ (List.mem_of_getElem? (i := 0) (by decide +kernel)), wr_1 _ (List.mem_of_getElem? (i := 2) (by decide +kernel)), wr_30 _ (List.mem_of_getElem? (i := 1) (by decide +kernel)), ⟨by decide +kernel, by decide +kernel⟩, by decide +kernel⟩
theorem cv_L_138 : sj_V RL 138 mX7_keep 0 := ⟨wr_30 _ (List.mem_of_getElem? (i := 3) (by decide +kernel)), wr_30 _ (List.mem_of_getElem? (i := 4) (by decide +kernel)), wr_30 _ (List.mem_of_getElem? (i := 5) (by decide +kernel)), wr_1 _ (List.mem_of_getElem? (i := 5) (by decide +kernel)), wr_30 _ (List.mem_of_getElem? (i := 6) (by decide +kernel)), ⟨by decide +kernel, by decide +kernel⟩, by decide +kernel⟩
theorem cv_L_141 : sj_V RL 141 mX7_restore 0 := ⟨wr_30 _ (List.mem_of_getElem? (i := 15) (by decide +kernel)), wr_30 _ (List.mem_of_getElem? (i := 16) (by decide +kernel)), wr_30 _ (List.mem_of_getElem? (i := 17) (by decide +kernel)), wr_1 _ (List.mem_of_getElem? (i := 5) (by decide +kernel)), wr_30 _ (List.mem_of_getElem? (i := 18) (by decide +kernel)), ⟨by decide +kernel, by decide +kernel⟩, by decide +kernel⟩
theorem cv_L_144 : sj_V RL 144 mX7_sheet 2 := ⟨wr_31 _ (List.mem_of_getElem? (i := 10) (by decide +kernel)), wr_31 _ (List.mem_of_getElem? (i := 11) (by decide +kernel)), wr_31 _ (List.mem_of_getElem? (i := 12) (by decide +kernel)), wr_1 _ (List.mem_of_getElem? (i := 5) (by decide +kernel)), wr_31 _ (List.mem_of_getElem? (i := 13) (by decide +kernel)), ⟨by decide +kernel, by decide +kernel⟩, by decide +kernel⟩
theorem cv_L_148 : sj_V RL 148 mX7_stroke 3 := ⟨wr_32 _ (List.mem_of_getElem? (i := 14) (by decide +kernel)), wr_32 _ (List.mem_of_getElem? (i := 15) (by decide +kernel)), wr_32 _ (List.mem_of_getElem? (i := 16) (by decide +kernel)), wr_1 _ (List.mem_of_getElem? (i := 5) (by decide +kernel)), wr_32 _ (List.mem_of_getElem? (i := 17) (by decide +kernel)), ⟨by decide +kernel, by decide +kernel⟩, by decide +kernel⟩
theorem cv_L_151 : sj_V RL 151 mX7_mark 2 := ⟨wr_33 _ (List.mem_of_getElem? (i := 9) (by decide +kernel)), wr_33 _ (List.mem_of_getElem? (i := 10) (by decide +kernel)), wr_33 _ (List.mem_of_getElem? (i := 11) (by decide +kernel)), wr_1 _ (List.mem_of_getElem? (i := 5) (by decide +kernel)), wr_33 _ (List.mem_of_getElem? (i := 12) (by decide +kernel)), ⟨by decide +kernel, by decide +kernel⟩, by decide +kernel⟩
theorem cv_L_154 : sj_V RL 154 mX7_compare 3 := ⟨wr_34 _ (List.mem_of_getElem? (i := 9) (by decide +kernel)), wr_34 _ (List.mem_of_getElem? (i := 10) (by decide +kernel)), wr_34 _ (List.mem_of_getElem? (i := 11) (by decide +kernel)), wr_1 _ (List.mem_of_getElem? (i := 5) (by decide +kernel)), wr_34 _ (List.mem_of_getElem? (i := 12) (by decide +kernel)), ⟨by decide +kernel, by decide +kernel⟩, by decide +kernel⟩
theorem cv_L_157 : sj_V RL 157 mX7_oath 2 := ⟨wr_35 _ (List.mem_of_getElem? (i := 13) (by decide +kernel)), wr_35 _ (List.mem_of_getElem? (i := 14) (by decide +kernel)), wr_35 _ (List.mem_of_getElem? (i := 15) (by decide +kernel)), wr_1 _ (List.mem_of_getElem? (i := 5) (by decide +kernel)), wr_35 _ (List.mem_of_getElem? (i := 16) (by decide +kernel)), ⟨by decide +kernel, by decide +kernel⟩, by decide +kernel⟩
theorem cv_L_160 : sj_V RL 160 mX7_count 1 := ⟨wr_37 _ (List.mem_of_getElem? (i := 9) (by decide +kernel)), wr_37 _ (List.mem_of_getElem? (i := 10) (by decide +kernel)), wr_37 _ (List.mem_of_getElem? (i := 11) (by decide +kernel)), wr_1 _ (List.mem_of_getElem? (i := 5) (by decide +kernel)), wr_37 _ (List.mem_of_getElem? (i := 12) (by decide +kernel)), ⟨by decide +kernel, by decide +kernel⟩, by decide +kernel⟩
theorem cv_L_163 : sj_V RL 163 mX7_whyNot 3 := ⟨wr_38 _ (List.mem_of_getElem? (i := 16) (by decide +kernel)), wr_38 _ (List.mem_of_getElem? (i := 17) (by decide +kernel)), wr_38 _ (List.mem_of_getElem? (i := 18) (by decide +kernel)), wr_1 _ (List.mem_of_getElem? (i := 5) (by decide +kernel)), wr_38 _ (List.mem_of_getElem? (i := 19) (by decide +kernel)), ⟨by decide +kernel, by decide +kernel⟩, by decide +kernel⟩
theorem cv_L_166 : sj_V RL 166 mX7_nearest 1 := ⟨wr_39 _ (List.mem_of_getElem? (i := 7) (by decide +kernel)), wr_39 _ (List.mem_of_getElem? (i := 8) (by decide +kernel)), wr_39 _ (List.mem_of_getElem? (i := 9) (by decide +kernel)), wr_1 _ (List.mem_of_getElem? (i := 5) (by decide +kernel)), wr_39 _ (List.mem_of_getElem? (i := 10) (by decide +kernel)), ⟨by decide +kernel, by decide +kernel⟩, by decide +kernel⟩
theorem cv_L_169 : sj_V RL 169 mX7_toleranceFor 3 := ⟨wr_40 _ (List.mem_of_getElem? (i := 2) (by decide +kernel)), wr_40 _ (List.mem_of_getElem? (i := 3) (by decide +kernel)), wr_40 _ (List.mem_of_getElem? (i := 4) (by decide +kernel)), wr_1 _ (List.mem_of_getElem? (i := 5) (by decide +kernel)), wr_40 _ (List.mem_of_getElem? (i := 5) (by decide +kernel)), ⟨by decide +kernel, by decide +kernel⟩, by decide +kernel⟩
theorem cv_L_172 : sj_V RL 172 mX7_ifPassed 3 := ⟨wr_40 _ (List.mem_of_getElem? (i := 18) (by decide +kernel)), wr_40 _ (List.mem_of_getElem? (i := 19) (by decide +kernel)), wr_40 _ (List.mem_of_getElem? (i := 20) (by decide +kernel)), wr_1 _ (List.mem_of_getElem? (i := 5) (by decide +kernel)), wr_40 _ (List.mem_of_getElem? (i := 21) (by decide +kernel)), ⟨by decide +kernel, by decide +kernel⟩, by decide +kernel⟩
theorem cv_L_173 : sj_V RL 173 mX6_handShare 0 := ⟨wr_41 _ (List.mem_of_getElem? (i := 10) (by decide +kernel)), wr_41 _ (List.mem_of_getElem? (i := 11) (by decide +kernel)), wr_41 _ (List.mem_of_getElem? (i := 12) (by decide +kernel)), wr_1 _ (List.mem_of_getElem? (i := 2) (by decide +kernel)), wr_41 _ (List.mem_of_getElem? (i := 13) (by decide +kernel)), ⟨by decide +kernel, by decide +kernel⟩, by decide +kernel⟩
theorem cv_L_177 : sj_V RL 177 mX7_handShare 0 := ⟨wr_41 _ (List.mem_of_getElem? (i := 18) (by decide +kernel)), wr_41 _ (List.mem_of_getElem? (i := 19) (by decide +kernel)), wr_41 _ (List.mem_of_getElem? (i := 20) (by decide +kernel)), wr_1 _ (List.mem_of_getElem? (i := 5) (by decide +kernel)), wr_41 _ (List.mem_of_getElem? (i := 21) (by decide +kernel)), ⟨by decide +kernel, by decide +kernel⟩, by decide +kernel⟩
theorem cv_L_178 : sj_V RL 178 mX6_digest 0 := ⟨wr_42 _ (List.mem_of_getElem? (i := 2) (by decide +kernel)), wr_42 _ (List.mem_of_getElem? (i := 3) (by decide +kernel)), wr_42 _ (List.mem_of_getElem? (i := 4) (by decide +kernel)), wr_1 _ (List.mem_of_getElem? (i := 2) (by decide +kernel)), wr_42 _ (List.mem_of_getElem? (i := 5) (by decide +kernel)), ⟨by decide +kernel, by decide +kernel⟩, by decide +kernel⟩
theorem cv_L_182 : sj_V RL 182 mX7_digest 0 := ⟨wr_43 _ (List.mem_of_getElem? (i := 11) (by decide +kernel)), wr_43 _ (List.mem_of_getElem? (i := 12) (by decide +kernel)), wr_43 _ (List.mem_of_getElem? (i := 13) (by decide +kernel)), wr_1 _ (List.mem_of_getElem? (i := 5) (by decide +kernel)), wr_43 _ (List.mem_of_getElem? (i := 14) (by decide +kernel)), ⟨by decide +kernel, by decide +kernel⟩, by decide +kernel⟩
theorem cv_X0_17 : sj_Vi RX0 17 mX4_init 0 := ⟨wr_5 _ (List.mem_of_getElem? (i := 16) (by decide +kernel)), wr_2 _ (List.mem_of_getElem? (i := 21) (by decide +kernel)), wr_1 _ (List.mem_of_getElem? (i := 19) (by decide +kernel)), wr_2 _ (List.mem_of_getElem? (i := 22) (by decide +kernel)), ⟨by decide +kernel, by decide +kernel⟩, by decide +kernel⟩
theorem cv_X0_22 : sj_V RX0 22 mX0_newestSlot 0 := ⟨wr_8 _ (List.mem_of_getElem? (i := 20) (by decide +kernel)), wr_8 _ (List.mem_of_getElem? (i := 21) (by decide +kernel)), wr_8 _ (List.mem_of_getElem? (i := 22) (by decide +kernel)), wr_1 _ (List.mem_of_getElem? (i := 23) (by decide +kernel)), wr_8 _ (List.mem_of_getElem? (i := 23) (by decide +kernel)), ⟨by decide +kernel, by decide +kernel⟩, by decide +kernel⟩
theorem cv_X0_26 : sj_V RX0 26 mX4_takeOver 1 := ⟨wr_9 _ (List.mem_of_getElem? (i := 0) (by decide +kernel)), wr_9 _ (List.mem_of_getElem? (i := 1) (by decide +kernel)), wr_9 _ (List.mem_of_getElem? (i := 2) (by decide +kernel)), wr_1 _ (List.mem_of_getElem? (i := 19) (by decide +kernel)), wr_9 _ (List.mem_of_getElem? (i := 3) (by decide +kernel)), ⟨by decide +kernel, by decide +kernel⟩, by decide +kernel⟩
theorem cv_X1_11 : sj_Vi RX1 11 mX2_init 1 := ⟨wr_4 _ (List.mem_of_getElem? (i := 12) (by decide +kernel)), wr_2 _ (List.mem_of_getElem? (i := 15) (by decide +kernel)), wr_2 _ (List.mem_of_getElem? (i := 8) (by decide +kernel)), wr_2 _ (List.mem_of_getElem? (i := 16) (by decide +kernel)), ⟨by decide +kernel, by decide +kernel⟩, by decide +kernel⟩
theorem cv_X1_36 : sj_V RX1 36 mX2_copyFrom 1 := ⟨wr_9 _ (List.mem_of_getElem? (i := 11) (by decide +kernel)), wr_4 _ (List.mem_of_getElem? (i := 0) (by decide +kernel)), wr_4 _ (List.mem_of_getElem? (i := 1) (by decide +kernel)), wr_2 _ (List.mem_of_getElem? (i := 8) (by decide +kernel)), wr_4 _ (List.mem_of_getElem? (i := 2) (by decide +kernel)), ⟨by decide +kernel, by decide +kernel⟩, by decide +kernel⟩
theorem cv_X1_40 : sj_V RX1 40 mX2_put 2 := ⟨wr_4 _ (List.mem_of_getElem? (i := 21) (by decide +kernel)), wr_4 _ (List.mem_of_getElem? (i := 14) (by decide +kernel)), wr_4 _ (List.mem_of_getElem? (i := 15) (by decide +kernel)), wr_2 _ (List.mem_of_getElem? (i := 8) (by decide +kernel)), wr_4 _ (List.mem_of_getElem? (i := 16) (by decide +kernel)), ⟨by decide +kernel, by decide +kernel⟩, by decide +kernel⟩
theorem cv_X1_44 : sj_V RX1 44 mX1_joinHands 0 := ⟨wr_15 _ (List.mem_of_getElem? (i := 3) (by decide +kernel)), wr_4 _ (List.mem_of_getElem? (i := 17) (by decide +kernel)), wr_4 _ (List.mem_of_getElem? (i := 18) (by decide +kernel)), wr_3 _ (List.mem_of_getElem? (i := 9) (by decide +kernel)), wr_4 _ (List.mem_of_getElem? (i := 19) (by decide +kernel)), ⟨by decide +kernel, by decide +kernel⟩, by decide +kernel⟩
theorem cv_X1_47 : sj_V RX1 47 mX1_takeOut 1 := ⟨wr_14 _ (List.mem_of_getElem? (i := 19) (by decide +kernel)), wr_14 _ (List.mem_of_getElem? (i := 20) (by decide +kernel)), wr_14 _ (List.mem_of_getElem? (i := 21) (by decide +kernel)), wr_3 _ (List.mem_of_getElem? (i := 9) (by decide +kernel)), wr_14 _ (List.mem_of_getElem? (i := 22) (by decide +kernel)), ⟨by decide +kernel, by decide +kernel⟩, by decide +kernel⟩
theorem cv_X1_50 : sj_V RX1 50 mX1_isOf 2 := ⟨wr_14 _ (List.mem_of_getElem? (i := 15) (by decide +kernel)), wr_14 _ (List.mem_of_getElem? (i := 16) (by decide +kernel)), wr_14 _ (List.mem_of_getElem? (i := 17) (by decide +kernel)), wr_3 _ (List.mem_of_getElem? (i := 9) (by decide +kernel)), wr_14 _ (List.mem_of_getElem? (i := 18) (by decide +kernel)), ⟨by decide +kernel, by decide +kernel⟩, by decide +kernel⟩
theorem cv_X1_54 : sj_V RX1 54 mX2_at 1 := ⟨wr_4 _ (List.mem_of_getElem? (i := 22) (by decide +kernel)), wr_4 _ (List.mem_of_getElem? (i := 23) (by decide +kernel)), wr_5 _ (List.mem_of_getElem? (i := 0) (by decide +kernel)), wr_2 _ (List.mem_of_getElem? (i := 8) (by decide +kernel)), wr_5 _ (List.mem_of_getElem? (i := 1) (by decide +kernel)), ⟨by decide +kernel, by decide +kernel⟩, by decide +kernel⟩
theorem cv_X1_58 : sj_Vs RX1 58 mX1_numberWithout 2 := ⟨wr_15 _ (List.mem_of_getElem? (i := 0) (by decide +kernel)), wr_15 _ (List.mem_of_getElem? (i := 1) (by decide +kernel)), wr_3 _ (List.mem_of_getElem? (i := 9) (by decide +kernel)), wr_15 _ (List.mem_of_getElem? (i := 2) (by decide +kernel)), ⟨by decide +kernel, by decide +kernel⟩, by decide +kernel⟩
theorem cv_X1_62 : sj_V RX1 62 mX1_placeOf 2 := ⟨wr_34 _ (List.mem_of_getElem? (i := 8) (by decide +kernel)), wr_18 _ (List.mem_of_getElem? (i := 11) (by decide +kernel)), wr_18 _ (List.mem_of_getElem? (i := 12) (by decide +kernel)), wr_3 _ (List.mem_of_getElem? (i := 9) (by decide +kernel)), wr_18 _ (List.mem_of_getElem? (i := 13) (by decide +kernel)), ⟨by decide +kernel, by decide +kernel⟩, by decide +kernel⟩
theorem cv_X1_65 : sj_V RX1 65 mX1_holdsTogether 1 := ⟨wr_35 _ (List.mem_of_getElem? (i := 8) (by decide +kernel)), wr_35 _ (List.mem_of_getElem? (i := 9) (by decide +kernel)), wr_35 _ (List.mem_of_getElem? (i := 10) (by decide +kernel)), wr_3 _ (List.mem_of_getElem? (i := 9) (by decide +kernel)), wr_35 _ (List.mem_of_getElem? (i := 11) (by decide +kernel)), ⟨by decide +kernel, by decide +kernel⟩, by decide +kernel⟩
theorem cv_X1_69 : sj_V RX1 69 mX1_isInHands 3 := ⟨wr_20 _ (List.mem_of_getElem? (i := 10) (by decide +kernel)), wr_20 _ (List.mem_of_getElem? (i := 11) (by decide +kernel)), wr_20 _ (List.mem_of_getElem? (i := 12) (by decide +kernel)), wr_3 _ (List.mem_of_getElem? (i := 9) (by decide +kernel)), wr_20 _ (List.mem_of_getElem? (i := 13) (by decide +kernel)), ⟨by decide +kernel, by decide +kernel⟩, by decide +kernel⟩
theorem cv_X1_73 : sj_V RX1 73 mX1_leads 3 := ⟨wr_35 _ (List.mem_of_getElem? (i := 12) (by decide +kernel)), wr_34 _ (List.mem_of_getElem? (i := 1) (by decide +kernel)), wr_34 _ (List.mem_of_getElem? (i := 2) (by decide +kernel)), wr_3 _ (List.mem_of_getElem? (i := 9) (by decide +kernel)), wr_34 _ (List.mem_of_getElem? (i := 3) (by decide +kernel)), ⟨by decide +kernel, by decide +kernel⟩, by decide +kernel⟩
theorem cv_X1_76 : sj_V RX1 76 mX2_closeUp 1 := ⟨wr_14 _ (List.mem_of_getElem? (i := 23) (by decide +kernel)), wr_14 _ (List.mem_of_getElem? (i := 8) (by decide +kernel)), wr_14 _ (List.mem_of_getElem? (i := 9) (by decide +kernel)), wr_2 _ (List.mem_of_getElem? (i := 8) (by decide +kernel)), wr_14 _ (List.mem_of_getElem? (i := 10) (by decide +kernel)), ⟨by decide +kernel, by decide +kernel⟩, by decide +kernel⟩
theorem cv_X1_79 : sj_V RX1 79 mX1_joinTwo 2 := ⟨wr_5 _ (List.mem_of_getElem? (i := 2) (by decide +kernel)), wr_5 _ (List.mem_of_getElem? (i := 3) (by decide +kernel)), wr_5 _ (List.mem_of_getElem? (i := 4) (by decide +kernel)), wr_3 _ (List.mem_of_getElem? (i := 9) (by decide +kernel)), wr_5 _ (List.mem_of_getElem? (i := 5) (by decide +kernel)), ⟨by decide +kernel, by decide +kernel⟩, by decide +kernel⟩
theorem cv_X1_82 : Cond.methodLink RX1 82 Lib.Math.min.name ∈ sj_GT ∧ Cond.static Lib.Math.min.name ∈ sj_GT ∧ Cond.initialized "java/lang/Math" ∈ sj_GT ∧ Cond.code Lib.Math.min.name Lib.Math.min.code 2 (some .int) ∈ sj_GT := ⟨wr_5 _ (List.mem_of_getElem? (i := 6) (by decide +kernel)), wr_5 _ (List.mem_of_getElem? (i := 7) (by decide +kernel)), wr_5 _ (List.mem_of_getElem? (i := 8) (by decide +kernel)), wr_5 _ (List.mem_of_getElem? (i := 9) (by decide +kernel))⟩
theorem cv_X3_11 : sj_Vi RX3 11 mX2_init 1 := ⟨wr_3 _ (List.mem_of_getElem? (i := 22) (by decide +kernel)), wr_2 _ (List.mem_of_getElem? (i := 15) (by decide +kernel)), wr_2 _ (List.mem_of_getElem? (i := 8) (by decide +kernel)), wr_2 _ (List.mem_of_getElem? (i := 16) (by decide +kernel)), ⟨by decide +kernel, by decide +kernel⟩, by decide +kernel⟩
theorem cv_X3_27 : sj_V RX3 27 mX2_copyFrom 1 := ⟨wr_3 _ (List.mem_of_getElem? (i := 23) (by decide +kernel)), wr_4 _ (List.mem_of_getElem? (i := 0) (by decide +kernel)), wr_4 _ (List.mem_of_getElem? (i := 1) (by decide +kernel)), wr_2 _ (List.mem_of_getElem? (i := 8) (by decide +kernel)), wr_4 _ (List.mem_of_getElem? (i := 2) (by decide +kernel)), ⟨by decide +kernel, by decide +kernel⟩, by decide +kernel⟩
theorem cv_X3_31 : sj_V RX3 31 mX3_total 1 := ⟨wr_9 _ (List.mem_of_getElem? (i := 17) (by decide +kernel)), wr_9 _ (List.mem_of_getElem? (i := 18) (by decide +kernel)), wr_9 _ (List.mem_of_getElem? (i := 19) (by decide +kernel)), wr_3 _ (List.mem_of_getElem? (i := 2) (by decide +kernel)), wr_9 _ (List.mem_of_getElem? (i := 20) (by decide +kernel)), ⟨by decide +kernel, by decide +kernel⟩, by decide +kernel⟩
theorem cv_X3_35 : sj_Vs RX3 35 mX3_mean 2 := ⟨wr_10 _ (List.mem_of_getElem? (i := 2) (by decide +kernel)), wr_10 _ (List.mem_of_getElem? (i := 3) (by decide +kernel)), wr_3 _ (List.mem_of_getElem? (i := 2) (by decide +kernel)), wr_10 _ (List.mem_of_getElem? (i := 4) (by decide +kernel)), ⟨by decide +kernel, by decide +kernel⟩, by decide +kernel⟩
theorem cv_X3_39 : sj_V RX3 39 mX2_put 2 := ⟨wr_10 _ (List.mem_of_getElem? (i := 9) (by decide +kernel)), wr_4 _ (List.mem_of_getElem? (i := 14) (by decide +kernel)), wr_4 _ (List.mem_of_getElem? (i := 15) (by decide +kernel)), wr_2 _ (List.mem_of_getElem? (i := 8) (by decide +kernel)), wr_4 _ (List.mem_of_getElem? (i := 16) (by decide +kernel)), ⟨by decide +kernel, by decide +kernel⟩, by decide +kernel⟩
theorem cv_X3_43 : sj_V RX3 43 mX3_slantRange 0 := ⟨wr_10 _ (List.mem_of_getElem? (i := 10) (by decide +kernel)), wr_10 _ (List.mem_of_getElem? (i := 11) (by decide +kernel)), wr_10 _ (List.mem_of_getElem? (i := 12) (by decide +kernel)), wr_3 _ (List.mem_of_getElem? (i := 2) (by decide +kernel)), wr_10 _ (List.mem_of_getElem? (i := 13) (by decide +kernel)), ⟨by decide +kernel, by decide +kernel⟩, by decide +kernel⟩
theorem cv_X3_47 : sj_V RX3 47 mX3_loopHeights 0 := ⟨wr_10 _ (List.mem_of_getElem? (i := 18) (by decide +kernel)), wr_10 _ (List.mem_of_getElem? (i := 19) (by decide +kernel)), wr_10 _ (List.mem_of_getElem? (i := 20) (by decide +kernel)), wr_3 _ (List.mem_of_getElem? (i := 2) (by decide +kernel)), wr_10 _ (List.mem_of_getElem? (i := 21) (by decide +kernel)), ⟨by decide +kernel, by decide +kernel⟩, by decide +kernel⟩
theorem cv_X3_50 : sj_V RX3 50 mX3_pressureSteps 0 := ⟨wr_10 _ (List.mem_of_getElem? (i := 22) (by decide +kernel)), wr_10 _ (List.mem_of_getElem? (i := 23) (by decide +kernel)), wr_11 _ (List.mem_of_getElem? (i := 0) (by decide +kernel)), wr_3 _ (List.mem_of_getElem? (i := 2) (by decide +kernel)), wr_11 _ (List.mem_of_getElem? (i := 1) (by decide +kernel)), ⟨by decide +kernel, by decide +kernel⟩, by decide +kernel⟩
theorem cv_X3_53 : sj_V RX3 53 mX3_numberOf 2 := ⟨wr_9 _ (List.mem_of_getElem? (i := 21) (by decide +kernel)), wr_9 _ (List.mem_of_getElem? (i := 22) (by decide +kernel)), wr_9 _ (List.mem_of_getElem? (i := 23) (by decide +kernel)), wr_3 _ (List.mem_of_getElem? (i := 2) (by decide +kernel)), wr_10 _ (List.mem_of_getElem? (i := 0) (by decide +kernel)), ⟨by decide +kernel, by decide +kernel⟩, by decide +kernel⟩
theorem cv_X3_56 : sj_V RX3 56 mX2_at 1 := ⟨wr_10 _ (List.mem_of_getElem? (i := 1) (by decide +kernel)), wr_4 _ (List.mem_of_getElem? (i := 23) (by decide +kernel)), wr_5 _ (List.mem_of_getElem? (i := 0) (by decide +kernel)), wr_2 _ (List.mem_of_getElem? (i := 8) (by decide +kernel)), wr_5 _ (List.mem_of_getElem? (i := 1) (by decide +kernel)), ⟨by decide +kernel, by decide +kernel⟩, by decide +kernel⟩
theorem cv_X3_59 : sj_V RX3 59 mX3_toldNumber 2 := ⟨wr_42 _ (List.mem_of_getElem? (i := 19) (by decide +kernel)), wr_32 _ (List.mem_of_getElem? (i := 11) (by decide +kernel)), wr_32 _ (List.mem_of_getElem? (i := 12) (by decide +kernel)), wr_3 _ (List.mem_of_getElem? (i := 2) (by decide +kernel)), wr_32 _ (List.mem_of_getElem? (i := 13) (by decide +kernel)), ⟨by decide +kernel, by decide +kernel⟩, by decide +kernel⟩
theorem cv_X3_62 : sj_Vsn RX3 62 mX6_mix 2 := ⟨List.mem_of_getElem? (i := 21) (by decide +kernel), wr_42 _ (List.mem_of_getElem? (i := 8) (by decide +kernel)), wr_1 _ (List.mem_of_getElem? (i := 2) (by decide +kernel)), wr_42 _ (List.mem_of_getElem? (i := 9) (by decide +kernel)), ⟨by decide +kernel, by decide +kernel⟩, by decide +kernel⟩
theorem cv_X3_66 : sj_V RX3 66 mX3_toldMark 1 := ⟨wr_42 _ (List.mem_of_getElem? (i := 20) (by decide +kernel)), wr_33 _ (List.mem_of_getElem? (i := 6) (by decide +kernel)), wr_33 _ (List.mem_of_getElem? (i := 7) (by decide +kernel)), wr_3 _ (List.mem_of_getElem? (i := 2) (by decide +kernel)), wr_33 _ (List.mem_of_getElem? (i := 8) (by decide +kernel)), ⟨by decide +kernel, by decide +kernel⟩, by decide +kernel⟩
theorem cv_X3_69 : Cond.methodLink RX3 69 Lib.Math.min.name ∈ sj_GT ∧ Cond.static Lib.Math.min.name ∈ sj_GT ∧ Cond.initialized "java/lang/Math" ∈ sj_GT ∧ Cond.code Lib.Math.min.name Lib.Math.min.code 2 (some .int) ∈ sj_GT := ⟨wr_10 _ (List.mem_of_getElem? (i := 14) (by decide +kernel)), wr_5 _ (List.mem_of_getElem? (i := 7) (by decide +kernel)), wr_5 _ (List.mem_of_getElem? (i := 8) (by decide +kernel)), wr_5 _ (List.mem_of_getElem? (i := 9) (by decide +kernel))⟩
theorem cv_X3_74 : Cond.methodLink RX3 74 Lib.Math.max.name ∈ sj_GT ∧ Cond.static Lib.Math.max.name ∈ sj_GT ∧ Cond.initialized "java/lang/Math" ∈ sj_GT ∧ Cond.code Lib.Math.max.name Lib.Math.max.code 2 (some .int) ∈ sj_GT := ⟨wr_10 _ (List.mem_of_getElem? (i := 15) (by decide +kernel)), wr_10 _ (List.mem_of_getElem? (i := 16) (by decide +kernel)), wr_5 _ (List.mem_of_getElem? (i := 8) (by decide +kernel)), wr_10 _ (List.mem_of_getElem? (i := 17) (by decide +kernel))⟩
theorem cv_X3_77 : Cond.methodLink RX3 77 Lib.Math.abs.name ∈ sj_GT ∧ Cond.static Lib.Math.abs.name ∈ sj_GT ∧ Cond.initialized "java/lang/Math" ∈ sj_GT ∧ Cond.code Lib.Math.abs.name Lib.Math.abs.code 1 (some .int) ∈ sj_GT := ⟨wr_11 _ (List.mem_of_getElem? (i := 2) (by decide +kernel)), wr_11 _ (List.mem_of_getElem? (i := 3) (by decide +kernel)), wr_5 _ (List.mem_of_getElem? (i := 8) (by decide +kernel)), wr_11 _ (List.mem_of_getElem? (i := 4) (by decide +kernel))⟩
theorem cv_X3_80 : sj_Vs RX3 80 mJ9_floorDiv_7cf53 2 := ⟨wr_10 _ (List.mem_of_getElem? (i := 5) (by decide +kernel)), wr_10 _ (List.mem_of_getElem? (i := 6) (by decide +kernel)), wr_10 _ (List.mem_of_getElem? (i := 7) (by decide +kernel)), wr_10 _ (List.mem_of_getElem? (i := 8) (by decide +kernel)), ⟨by decide +kernel, by decide +kernel⟩, by decide +kernel⟩
theorem cv_X4_11 : sj_Vi RX4 11 mX3_init 2 := ⟨wr_3 _ (List.mem_of_getElem? (i := 14) (by decide +kernel)), wr_3 _ (List.mem_of_getElem? (i := 15) (by decide +kernel)), wr_3 _ (List.mem_of_getElem? (i := 2) (by decide +kernel)), wr_3 _ (List.mem_of_getElem? (i := 16) (by decide +kernel)), ⟨by decide +kernel, by decide +kernel⟩, by decide +kernel⟩
theorem cv_X4_26 : sj_Vi RX4 26 mX2_init 1 := ⟨wr_4 _ (List.mem_of_getElem? (i := 3) (by decide +kernel)), wr_2 _ (List.mem_of_getElem? (i := 15) (by decide +kernel)), wr_2 _ (List.mem_of_getElem? (i := 8) (by decide +kernel)), wr_2 _ (List.mem_of_getElem? (i := 16) (by decide +kernel)), ⟨by decide +kernel, by decide +kernel⟩, by decide +kernel⟩
theorem cv_X4_35 : sj_Vin RX4 35 mX1_init 0 := ⟨List.mem_of_getElem? (i := 22) (by decide +kernel), wr_4 _ (List.mem_of_getElem? (i := 4) (by decide +kernel)), wr_3 _ (List.mem_of_getElem? (i := 9) (by decide +kernel)), wr_4 _ (List.mem_of_getElem? (i := 5) (by decide +kernel)), ⟨by decide +kernel, by decide +kernel⟩, by decide +kernel⟩
theorem cv_X4_54 : sj_V RX4 54 mX2_put 2 := ⟨wr_4 _ (List.mem_of_getElem? (i := 13) (by decide +kernel)), wr_4 _ (List.mem_of_getElem? (i := 14) (by decide +kernel)), wr_4 _ (List.mem_of_getElem? (i := 15) (by decide +kernel)), wr_2 _ (List.mem_of_getElem? (i := 8) (by decide +kernel)), wr_4 _ (List.mem_of_getElem? (i := 16) (by decide +kernel)), ⟨by decide +kernel, by decide +kernel⟩, by decide +kernel⟩
theorem cv_X4_58 : sj_Vn RX4 58 mX1_joinHands 0 := ⟨List.mem_of_getElem? (i := 23) (by decide +kernel), wr_4 _ (List.mem_of_getElem? (i := 17) (by decide +kernel)), wr_4 _ (List.mem_of_getElem? (i := 18) (by decide +kernel)), wr_3 _ (List.mem_of_getElem? (i := 9) (by decide +kernel)), wr_4 _ (List.mem_of_getElem? (i := 19) (by decide +kernel)), ⟨by decide +kernel, by decide +kernel⟩, by decide +kernel⟩
theorem cv_X4_61 : sj_V RX4 61 mX2_copyFrom 1 := ⟨wr_9 _ (List.mem_of_getElem? (i := 5) (by decide +kernel)), wr_4 _ (List.mem_of_getElem? (i := 0) (by decide +kernel)), wr_4 _ (List.mem_of_getElem? (i := 1) (by decide +kernel)), wr_2 _ (List.mem_of_getElem? (i := 8) (by decide +kernel)), wr_4 _ (List.mem_of_getElem? (i := 2) (by decide +kernel)), ⟨by decide +kernel, by decide +kernel⟩, by decide +kernel⟩
theorem cv_X4_68 : sj_V RX4 68 mX1_takeOver 1 := ⟨wr_9 _ (List.mem_of_getElem? (i := 6) (by decide +kernel)), wr_9 _ (List.mem_of_getElem? (i := 7) (by decide +kernel)), wr_9 _ (List.mem_of_getElem? (i := 8) (by decide +kernel)), wr_3 _ (List.mem_of_getElem? (i := 9) (by decide +kernel)), wr_9 _ (List.mem_of_getElem? (i := 9) (by decide +kernel)), ⟨by decide +kernel, by decide +kernel⟩, by decide +kernel⟩
theorem cv_X4_72 : sj_V RX4 72 mX2_closeUp 1 := ⟨wr_14 _ (List.mem_of_getElem? (i := 7) (by decide +kernel)), wr_14 _ (List.mem_of_getElem? (i := 8) (by decide +kernel)), wr_14 _ (List.mem_of_getElem? (i := 9) (by decide +kernel)), wr_2 _ (List.mem_of_getElem? (i := 8) (by decide +kernel)), wr_14 _ (List.mem_of_getElem? (i := 10) (by decide +kernel)), ⟨by decide +kernel, by decide +kernel⟩, by decide +kernel⟩
theorem cv_X4_75 : sj_V RX4 75 mX1_forgetSheet 1 := ⟨wr_14 _ (List.mem_of_getElem? (i := 11) (by decide +kernel)), wr_14 _ (List.mem_of_getElem? (i := 12) (by decide +kernel)), wr_14 _ (List.mem_of_getElem? (i := 13) (by decide +kernel)), wr_3 _ (List.mem_of_getElem? (i := 9) (by decide +kernel)), wr_14 _ (List.mem_of_getElem? (i := 14) (by decide +kernel)), ⟨by decide +kernel, by decide +kernel⟩, by decide +kernel⟩
theorem cv_X4_79 : sj_V RX4 79 mX2_at 1 := ⟨wr_16 _ (List.mem_of_getElem? (i := 13) (by decide +kernel)), wr_4 _ (List.mem_of_getElem? (i := 23) (by decide +kernel)), wr_5 _ (List.mem_of_getElem? (i := 0) (by decide +kernel)), wr_2 _ (List.mem_of_getElem? (i := 8) (by decide +kernel)), wr_5 _ (List.mem_of_getElem? (i := 1) (by decide +kernel)), ⟨by decide +kernel, by decide +kernel⟩, by decide +kernel⟩
theorem cv_X4_82 : Cond.methodLink RX4 82 Lib.Math.min.name ∈ sj_GT ∧ Cond.static Lib.Math.min.name ∈ sj_GT ∧ Cond.initialized "java/lang/Math" ∈ sj_GT ∧ Cond.code Lib.Math.min.name Lib.Math.min.code 2 (some .int) ∈ sj_GT := ⟨wr_16 _ (List.mem_of_getElem? (i := 11) (by decide +kernel)), wr_5 _ (List.mem_of_getElem? (i := 7) (by decide +kernel)), wr_5 _ (List.mem_of_getElem? (i := 8) (by decide +kernel)), wr_5 _ (List.mem_of_getElem? (i := 9) (by decide +kernel))⟩
theorem cv_X4_88 : Cond.methodLink RX4 88 Lib.Math.max.name ∈ sj_GT ∧ Cond.static Lib.Math.max.name ∈ sj_GT ∧ Cond.initialized "java/lang/Math" ∈ sj_GT ∧ Cond.code Lib.Math.max.name Lib.Math.max.code 2 (some .int) ∈ sj_GT := ⟨wr_16 _ (List.mem_of_getElem? (i := 12) (by decide +kernel)), wr_10 _ (List.mem_of_getElem? (i := 16) (by decide +kernel)), wr_5 _ (List.mem_of_getElem? (i := 8) (by decide +kernel)), wr_10 _ (List.mem_of_getElem? (i := 17) (by decide +kernel))⟩
theorem cv_X4_91 : sj_V RX4 91 mX4_sheetAt 1 := ⟨wr_19 _ (List.mem_of_getElem? (i := 2) (by decide +kernel)), wr_19 _ (List.mem_of_getElem? (i := 3) (by decide +kernel)), wr_19 _ (List.mem_of_getElem? (i := 4) (by decide +kernel)), wr_1 _ (List.mem_of_getElem? (i := 19) (by decide +kernel)), wr_19 _ (List.mem_of_getElem? (i := 5) (by decide +kernel)), ⟨by decide +kernel, by decide +kernel⟩, by decide +kernel⟩
theorem cv_X4_98 : sj_V RX4 98 mX3_total 1 := ⟨wr_19 _ (List.mem_of_getElem? (i := 6) (by decide +kernel)), wr_9 _ (List.mem_of_getElem? (i := 18) (by decide +kernel)), wr_9 _ (List.mem_of_getElem? (i := 19) (by decide +kernel)), wr_3 _ (List.mem_of_getElem? (i := 2) (by decide +kernel)), wr_9 _ (List.mem_of_getElem? (i := 20) (by decide +kernel)), ⟨by decide +kernel, by decide +kernel⟩, by decide +kernel⟩
theorem cv_X4_101 : sj_V RX4 101 mX4_trembles 1 := ⟨wr_18 _ (List.mem_of_getElem? (i := 22) (by decide +kernel)), wr_18 _ (List.mem_of_getElem? (i := 23) (by decide +kernel)), wr_19 _ (List.mem_of_getElem? (i := 0) (by decide +kernel)), wr_1 _ (List.mem_of_getElem? (i := 19) (by decide +kernel)), wr_19 _ (List.mem_of_getElem? (i := 1) (by decide +kernel)), ⟨by decide +kernel, by decide +kernel⟩, by decide +kernel⟩
theorem cv_X4_105 : sj_V RX4 105 mX1_handOf 1 := ⟨wr_18 _ (List.mem_of_getElem? (i := 18) (by decide +kernel)), wr_18 _ (List.mem_of_getElem? (i := 19) (by decide +kernel)), wr_18 _ (List.mem_of_getElem? (i := 20) (by decide +kernel)), wr_3 _ (List.mem_of_getElem? (i := 9) (by decide +kernel)), wr_18 _ (List.mem_of_getElem? (i := 21) (by decide +kernel)), ⟨by decide +kernel, by decide +kernel⟩, by decide +kernel⟩
theorem cv_X4_108 : sj_V RX4 108 mX1_ofSheet 1 := ⟨wr_31 _ (List.mem_of_getElem? (i := 6) (by decide +kernel)), wr_31 _ (List.mem_of_getElem? (i := 7) (by decide +kernel)), wr_31 _ (List.mem_of_getElem? (i := 8) (by decide +kernel)), wr_3 _ (List.mem_of_getElem? (i := 9) (by decide +kernel)), wr_31 _ (List.mem_of_getElem? (i := 9) (by decide +kernel)), ⟨by decide +kernel, by decide +kernel⟩, by decide +kernel⟩
theorem cv_X4_111 : sj_V RX4 111 mX4_fadedMarks 1 := ⟨wr_19 _ (List.mem_of_getElem? (i := 19) (by decide +kernel)), wr_19 _ (List.mem_of_getElem? (i := 20) (by decide +kernel)), wr_19 _ (List.mem_of_getElem? (i := 21) (by decide +kernel)), wr_1 _ (List.mem_of_getElem? (i := 19) (by decide +kernel)), wr_19 _ (List.mem_of_getElem? (i := 22) (by decide +kernel)), ⟨by decide +kernel, by decide +kernel⟩, by decide +kernel⟩
theorem cv_X4_115 : sj_V RX4 115 mX1_ofOneHand 0 := ⟨wr_36 _ (List.mem_of_getElem? (i := 16) (by decide +kernel)), wr_36 _ (List.mem_of_getElem? (i := 17) (by decide +kernel)), wr_36 _ (List.mem_of_getElem? (i := 18) (by decide +kernel)), wr_3 _ (List.mem_of_getElem? (i := 9) (by decide +kernel)), wr_36 _ (List.mem_of_getElem? (i := 19) (by decide +kernel)), ⟨by decide +kernel, by decide +kernel⟩, by decide +kernel⟩
theorem cv_X4_119 : sj_V RX4 119 mX4_hands 0 := ⟨wr_36 _ (List.mem_of_getElem? (i := 20) (by decide +kernel)), wr_20 _ (List.mem_of_getElem? (i := 19) (by decide +kernel)), wr_20 _ (List.mem_of_getElem? (i := 20) (by decide +kernel)), wr_1 _ (List.mem_of_getElem? (i := 19) (by decide +kernel)), wr_20 _ (List.mem_of_getElem? (i := 21) (by decide +kernel)), ⟨by decide +kernel, by decide +kernel⟩, by decide +kernel⟩
theorem cv_X4_122 : sj_V RX4 122 mX4_mostOfAHand 0 := ⟨wr_36 _ (List.mem_of_getElem? (i := 21) (by decide +kernel)), wr_36 _ (List.mem_of_getElem? (i := 22) (by decide +kernel)), wr_36 _ (List.mem_of_getElem? (i := 23) (by decide +kernel)), wr_1 _ (List.mem_of_getElem? (i := 19) (by decide +kernel)), wr_37 _ (List.mem_of_getElem? (i := 0) (by decide +kernel)), ⟨by decide +kernel, by decide +kernel⟩, by decide +kernel⟩
theorem cv_X4_125 : sj_V RX4 125 mX4_tremblingSheets 0 := ⟨wr_37 _ (List.mem_of_getElem? (i := 1) (by decide +kernel)), wr_37 _ (List.mem_of_getElem? (i := 2) (by decide +kernel)), wr_37 _ (List.mem_of_getElem? (i := 3) (by decide +kernel)), wr_1 _ (List.mem_of_getElem? (i := 19) (by decide +kernel)), wr_37 _ (List.mem_of_getElem? (i := 4) (by decide +kernel)), ⟨by decide +kernel, by decide +kernel⟩, by decide +kernel⟩
theorem cv_X4_131 : sj_V RX4 131 mX4_likePairs 0 := ⟨wr_37 _ (List.mem_of_getElem? (i := 5) (by decide +kernel)), wr_37 _ (List.mem_of_getElem? (i := 6) (by decide +kernel)), wr_37 _ (List.mem_of_getElem? (i := 7) (by decide +kernel)), wr_1 _ (List.mem_of_getElem? (i := 19) (by decide +kernel)), wr_37 _ (List.mem_of_getElem? (i := 8) (by decide +kernel)), ⟨by decide +kernel, by decide +kernel⟩, by decide +kernel⟩
theorem cv_X4_134 : sj_V RX4 134 mX4_likeness 3 := ⟨wr_19 _ (List.mem_of_getElem? (i := 7) (by decide +kernel)), wr_19 _ (List.mem_of_getElem? (i := 8) (by decide +kernel)), wr_19 _ (List.mem_of_getElem? (i := 9) (by decide +kernel)), wr_1 _ (List.mem_of_getElem? (i := 19) (by decide +kernel)), wr_19 _ (List.mem_of_getElem? (i := 10) (by decide +kernel)), ⟨by decide +kernel, by decide +kernel⟩, by decide +kernel⟩
theorem cv_X4_138 : sj_V RX4 138 mX4_agreeing 3 := ⟨wr_19 _ (List.mem_of_getElem? (i := 11) (by decide +kernel)), wr_19 _ (List.mem_of_getElem? (i := 12) (by decide +kernel)), wr_19 _ (List.mem_of_getElem? (i := 13) (by decide +kernel)), wr_1 _ (List.mem_of_getElem? (i := 19) (by decide +kernel)), wr_19 _ (List.mem_of_getElem? (i := 14) (by decide +kernel)), ⟨by decide +kernel, by decide +kernel⟩, by decide +kernel⟩
theorem cv_X4_141 : sj_V RX4 141 mX1_leads 3 := ⟨wr_34 _ (List.mem_of_getElem? (i := 0) (by decide +kernel)), wr_34 _ (List.mem_of_getElem? (i := 1) (by decide +kernel)), wr_34 _ (List.mem_of_getElem? (i := 2) (by decide +kernel)), wr_3 _ (List.mem_of_getElem? (i := 9) (by decide +kernel)), wr_34 _ (List.mem_of_getElem? (i := 3) (by decide +kernel)), ⟨by decide +kernel, by decide +kernel⟩, by decide +kernel⟩
theorem cv_X4_145 : sj_V RX4 145 mX4_areOfOneHand 2 := ⟨wr_18 _ (List.mem_of_getElem? (i := 14) (by decide +kernel)), wr_18 _ (List.mem_of_getElem? (i := 15) (by decide +kernel)), wr_18 _ (List.mem_of_getElem? (i := 16) (by decide +kernel)), wr_1 _ (List.mem_of_getElem? (i := 19) (by decide +kernel)), wr_18 _ (List.mem_of_getElem? (i := 17) (by decide +kernel)), ⟨by decide +kernel, by decide +kernel⟩, by decide +kernel⟩
theorem cv_X4_149 : sj_V RX4 149 mX1_kindOf 2 := ⟨wr_34 _ (List.mem_of_getElem? (i := 4) (by decide +kernel)), wr_34 _ (List.mem_of_getElem? (i := 5) (by decide +kernel)), wr_34 _ (List.mem_of_getElem? (i := 6) (by decide +kernel)), wr_3 _ (List.mem_of_getElem? (i := 9) (by decide +kernel)), wr_34 _ (List.mem_of_getElem? (i := 7) (by decide +kernel)), ⟨by decide +kernel, by decide +kernel⟩, by decide +kernel⟩
theorem cv_X4_152 : sj_V RX4 152 mX1_placeOf 2 := ⟨wr_18 _ (List.mem_of_getElem? (i := 10) (by decide +kernel)), wr_18 _ (List.mem_of_getElem? (i := 11) (by decide +kernel)), wr_18 _ (List.mem_of_getElem? (i := 12) (by decide +kernel)), wr_3 _ (List.mem_of_getElem? (i := 9) (by decide +kernel)), wr_18 _ (List.mem_of_getElem? (i := 13) (by decide +kernel)), ⟨by decide +kernel, by decide +kernel⟩, by decide +kernel⟩
theorem cv_X4_155 : sj_V RX4 155 mX1_forbidJoining 2 := ⟨wr_20 _ (List.mem_of_getElem? (i := 6) (by decide +kernel)), wr_20 _ (List.mem_of_getElem? (i := 7) (by decide +kernel)), wr_20 _ (List.mem_of_getElem? (i := 8) (by decide +kernel)), wr_3 _ (List.mem_of_getElem? (i := 9) (by decide +kernel)), wr_20 _ (List.mem_of_getElem? (i := 9) (by decide +kernel)), ⟨by decide +kernel, by decide +kernel⟩, by decide +kernel⟩
theorem cv_X4_158 : sj_Vs RX4 158 mJ6_bitCount_0f7a4 1 := ⟨wr_19 _ (List.mem_of_getElem? (i := 23) (by decide +kernel)), wr_20 _ (List.mem_of_getElem? (i := 0) (by decide +kernel)), wr_20 _ (List.mem_of_getElem? (i := 1) (by decide +kernel)), wr_20 _ (List.mem_of_getElem? (i := 2) (by decide +kernel)), ⟨by decide +kernel, by decide +kernel⟩, by decide +kernel⟩
theorem cv_X4_166 : Cond.methodLink RX4 166 Lib.Math.abs.name ∈ sj_GT ∧ Cond.static Lib.Math.abs.name ∈ sj_GT ∧ Cond.initialized "java/lang/Math" ∈ sj_GT ∧ Cond.code Lib.Math.abs.name Lib.Math.abs.code 1 (some .int) ∈ sj_GT := ⟨wr_19 _ (List.mem_of_getElem? (i := 15) (by decide +kernel)), wr_11 _ (List.mem_of_getElem? (i := 3) (by decide +kernel)), wr_5 _ (List.mem_of_getElem? (i := 8) (by decide +kernel)), wr_11 _ (List.mem_of_getElem? (i := 4) (by decide +kernel))⟩
theorem cv_X4_169 : sj_Vs RX4 169 mX4_allowance 2 := ⟨wr_19 _ (List.mem_of_getElem? (i := 16) (by decide +kernel)), wr_19 _ (List.mem_of_getElem? (i := 17) (by decide +kernel)), wr_1 _ (List.mem_of_getElem? (i := 19) (by decide +kernel)), wr_19 _ (List.mem_of_getElem? (i := 18) (by decide +kernel)), ⟨by decide +kernel, by decide +kernel⟩, by decide +kernel⟩
theorem cv_X5_11 : sj_Vi RX5 11 mX2_init 1 := ⟨wr_2 _ (List.mem_of_getElem? (i := 14) (by decide +kernel)), wr_2 _ (List.mem_of_getElem? (i := 15) (by decide +kernel)), wr_2 _ (List.mem_of_getElem? (i := 8) (by decide +kernel)), wr_2 _ (List.mem_of_getElem? (i := 16) (by decide +kernel)), ⟨by decide +kernel, by decide +kernel⟩, by decide +kernel⟩
theorem cv_X5_36 : sj_V RX5 36 mX2_put 2 := ⟨wr_8 _ (List.mem_of_getElem? (i := 9) (by decide +kernel)), wr_4 _ (List.mem_of_getElem? (i := 14) (by decide +kernel)), wr_4 _ (List.mem_of_getElem? (i := 15) (by decide +kernel)), wr_2 _ (List.mem_of_getElem? (i := 8) (by decide +kernel)), wr_4 _ (List.mem_of_getElem? (i := 16) (by decide +kernel)), ⟨by decide +kernel, by decide +kernel⟩, by decide +kernel⟩
theorem cv_X5_40 : sj_Vsn RX5 40 mX6_mix 2 := ⟨List.mem_of_getElem? (i := 24) (by decide +kernel), wr_42 _ (List.mem_of_getElem? (i := 8) (by decide +kernel)), wr_1 _ (List.mem_of_getElem? (i := 2) (by decide +kernel)), wr_42 _ (List.mem_of_getElem? (i := 9) (by decide +kernel)), ⟨by decide +kernel, by decide +kernel⟩, by decide +kernel⟩
theorem cv_X5_44 : sj_V RX5 44 mX2_at 1 := ⟨wr_7 _ (List.mem_of_getElem? (i := 20) (by decide +kernel)), wr_4 _ (List.mem_of_getElem? (i := 23) (by decide +kernel)), wr_5 _ (List.mem_of_getElem? (i := 0) (by decide +kernel)), wr_2 _ (List.mem_of_getElem? (i := 8) (by decide +kernel)), wr_5 _ (List.mem_of_getElem? (i := 1) (by decide +kernel)), ⟨by decide +kernel, by decide +kernel⟩, by decide +kernel⟩
theorem cv_X5_48 : sj_V RX5 48 mX5_begin 0 := ⟨wr_6 _ (List.mem_of_getElem? (i := 23) (by decide +kernel)), wr_7 _ (List.mem_of_getElem? (i := 0) (by decide +kernel)), wr_7 _ (List.mem_of_getElem? (i := 1) (by decide +kernel)), wr_1 _ (List.mem_of_getElem? (i := 15) (by decide +kernel)), wr_7 _ (List.mem_of_getElem? (i := 2) (by decide +kernel)), ⟨by decide +kernel, by decide +kernel⟩, by decide +kernel⟩
theorem cv_X5_51 : sj_V RX5 51 mX5_readStroke 0 := ⟨wr_7 _ (List.mem_of_getElem? (i := 7) (by decide +kernel)), wr_7 _ (List.mem_of_getElem? (i := 8) (by decide +kernel)), wr_7 _ (List.mem_of_getElem? (i := 9) (by decide +kernel)), wr_1 _ (List.mem_of_getElem? (i := 15) (by decide +kernel)), wr_7 _ (List.mem_of_getElem? (i := 10) (by decide +kernel)), ⟨by decide +kernel, by decide +kernel⟩, by decide +kernel⟩
theorem cv_X5_54 : sj_V RX5 54 mX5_skip 1 := ⟨wr_7 _ (List.mem_of_getElem? (i := 11) (by decide +kernel)), wr_7 _ (List.mem_of_getElem? (i := 12) (by decide +kernel)), wr_7 _ (List.mem_of_getElem? (i := 13) (by decide +kernel)), wr_1 _ (List.mem_of_getElem? (i := 15) (by decide +kernel)), wr_7 _ (List.mem_of_getElem? (i := 14) (by decide +kernel)), ⟨by decide +kernel, by decide +kernel⟩, by decide +kernel⟩
theorem cv_X5_58 : sj_V RX5 58 mX5_isComplete 0 := ⟨wr_8 _ (List.mem_of_getElem? (i := 10) (by decide +kernel)), wr_8 _ (List.mem_of_getElem? (i := 11) (by decide +kernel)), wr_8 _ (List.mem_of_getElem? (i := 12) (by decide +kernel)), wr_1 _ (List.mem_of_getElem? (i := 15) (by decide +kernel)), wr_8 _ (List.mem_of_getElem? (i := 13) (by decide +kernel)), ⟨by decide +kernel, by decide +kernel⟩, by decide +kernel⟩
theorem cv_X5_62 : sj_V RX5 62 mX5_readPart 0 := ⟨wr_26 _ (List.mem_of_getElem? (i := 18) (by decide +kernel)), wr_26 _ (List.mem_of_getElem? (i := 19) (by decide +kernel)), wr_26 _ (List.mem_of_getElem? (i := 20) (by decide +kernel)), wr_1 _ (List.mem_of_getElem? (i := 15) (by decide +kernel)), wr_26 _ (List.mem_of_getElem? (i := 21) (by decide +kernel)), ⟨by decide +kernel, by decide +kernel⟩, by decide +kernel⟩
theorem cv_X5_78 : sj_V RX5 78 mX5_readNumber 2 := ⟨wr_7 _ (List.mem_of_getElem? (i := 21) (by decide +kernel)), wr_7 _ (List.mem_of_getElem? (i := 22) (by decide +kernel)), wr_7 _ (List.mem_of_getElem? (i := 23) (by decide +kernel)), wr_1 _ (List.mem_of_getElem? (i := 15) (by decide +kernel)), wr_8 _ (List.mem_of_getElem? (i := 0) (by decide +kernel)), ⟨by decide +kernel, by decide +kernel⟩, by decide +kernel⟩
theorem cv_X5_82 : sj_V RX5 82 mX5_need 1 := ⟨wr_8 _ (List.mem_of_getElem? (i := 5) (by decide +kernel)), wr_8 _ (List.mem_of_getElem? (i := 6) (by decide +kernel)), wr_8 _ (List.mem_of_getElem? (i := 7) (by decide +kernel)), wr_1 _ (List.mem_of_getElem? (i := 15) (by decide +kernel)), wr_8 _ (List.mem_of_getElem? (i := 8) (by decide +kernel)), ⟨by decide +kernel, by decide +kernel⟩, by decide +kernel⟩
theorem cv_X5_85 : sj_V RX5 85 mX5_codeHere 0 := ⟨wr_7 _ (List.mem_of_getElem? (i := 15) (by decide +kernel)), wr_7 _ (List.mem_of_getElem? (i := 16) (by decide +kernel)), wr_7 _ (List.mem_of_getElem? (i := 17) (by decide +kernel)), wr_1 _ (List.mem_of_getElem? (i := 15) (by decide +kernel)), wr_7 _ (List.mem_of_getElem? (i := 18) (by decide +kernel)), ⟨by decide +kernel, by decide +kernel⟩, by decide +kernel⟩
theorem cv_X5_89 : sj_V RX5 89 mX5_digitHere 0 := ⟨wr_8 _ (List.mem_of_getElem? (i := 1) (by decide +kernel)), wr_8 _ (List.mem_of_getElem? (i := 2) (by decide +kernel)), wr_8 _ (List.mem_of_getElem? (i := 3) (by decide +kernel)), wr_1 _ (List.mem_of_getElem? (i := 15) (by decide +kernel)), wr_8 _ (List.mem_of_getElem? (i := 4) (by decide +kernel)), ⟨by decide +kernel, by decide +kernel⟩, by decide +kernel⟩
theorem cv_X6_9 : sj_Vin RX6 9 mX5_init 0 := ⟨List.mem_of_getElem? (i := 20) (by decide +kernel), wr_2 _ (List.mem_of_getElem? (i := 3) (by decide +kernel)), wr_1 _ (List.mem_of_getElem? (i := 15) (by decide +kernel)), wr_2 _ (List.mem_of_getElem? (i := 4) (by decide +kernel)), ⟨by decide +kernel, by decide +kernel⟩, by decide +kernel⟩
theorem cv_X6_18 : sj_Vi RX6 18 mX4_init 0 := ⟨wr_2 _ (List.mem_of_getElem? (i := 20) (by decide +kernel)), wr_2 _ (List.mem_of_getElem? (i := 21) (by decide +kernel)), wr_1 _ (List.mem_of_getElem? (i := 19) (by decide +kernel)), wr_2 _ (List.mem_of_getElem? (i := 22) (by decide +kernel)), ⟨by decide +kernel, by decide +kernel⟩, by decide +kernel⟩
theorem cv_X6_25 : sj_Vi RX6 25 mX0_init 0 := ⟨wr_5 _ (List.mem_of_getElem? (i := 10) (by decide +kernel)), wr_5 _ (List.mem_of_getElem? (i := 11) (by decide +kernel)), wr_1 _ (List.mem_of_getElem? (i := 23) (by decide +kernel)), wr_5 _ (List.mem_of_getElem? (i := 12) (by decide +kernel)), ⟨by decide +kernel, by decide +kernel⟩, by decide +kernel⟩
theorem cv_X6_37 : sj_V RX6 37 mX5_readSheet 0 := ⟨wr_6 _ (List.mem_of_getElem? (i := 19) (by decide +kernel)), wr_6 _ (List.mem_of_getElem? (i := 20) (by decide +kernel)), wr_6 _ (List.mem_of_getElem? (i := 21) (by decide +kernel)), wr_1 _ (List.mem_of_getElem? (i := 15) (by decide +kernel)), wr_6 _ (List.mem_of_getElem? (i := 22) (by decide +kernel)), ⟨by decide +kernel, by decide +kernel⟩, by decide +kernel⟩
theorem cv_X6_57 : sj_V RX6 57 mX0_save 1 := ⟨wr_8 _ (List.mem_of_getElem? (i := 14) (by decide +kernel)), wr_8 _ (List.mem_of_getElem? (i := 15) (by decide +kernel)), wr_8 _ (List.mem_of_getElem? (i := 16) (by decide +kernel)), wr_1 _ (List.mem_of_getElem? (i := 23) (by decide +kernel)), wr_8 _ (List.mem_of_getElem? (i := 17) (by decide +kernel)), ⟨by decide +kernel, by decide +kernel⟩, by decide +kernel⟩
theorem cv_X6_70 : sj_Vi RX6 70 mX3_init 2 := ⟨wr_9 _ (List.mem_of_getElem? (i := 12) (by decide +kernel)), wr_3 _ (List.mem_of_getElem? (i := 15) (by decide +kernel)), wr_3 _ (List.mem_of_getElem? (i := 2) (by decide +kernel)), wr_3 _ (List.mem_of_getElem? (i := 16) (by decide +kernel)), ⟨by decide +kernel, by decide +kernel⟩, by decide +kernel⟩
theorem cv_X6_73 : sj_V RX6 73 mX3_reckonMarks 0 := ⟨wr_9 _ (List.mem_of_getElem? (i := 13) (by decide +kernel)), wr_9 _ (List.mem_of_getElem? (i := 14) (by decide +kernel)), wr_9 _ (List.mem_of_getElem? (i := 15) (by decide +kernel)), wr_3 _ (List.mem_of_getElem? (i := 2) (by decide +kernel)), wr_9 _ (List.mem_of_getElem? (i := 16) (by decide +kernel)), ⟨by decide +kernel, by decide +kernel⟩, by decide +kernel⟩
theorem cv_X6_76 : sj_V RX6 76 mX4_putDown 2 := ⟨wr_11 _ (List.mem_of_getElem? (i := 5) (by decide +kernel)), wr_11 _ (List.mem_of_getElem? (i := 6) (by decide +kernel)), wr_11 _ (List.mem_of_getElem? (i := 7) (by decide +kernel)), wr_1 _ (List.mem_of_getElem? (i := 19) (by decide +kernel)), wr_11 _ (List.mem_of_getElem? (i := 8) (by decide +kernel)), ⟨by decide +kernel, by decide +kernel⟩, by decide +kernel⟩
theorem cv_X6_80 : sj_V RX6 80 mX5_empty 0 := ⟨wr_11 _ (List.mem_of_getElem? (i := 9) (by decide +kernel)), wr_11 _ (List.mem_of_getElem? (i := 10) (by decide +kernel)), wr_11 _ (List.mem_of_getElem? (i := 11) (by decide +kernel)), wr_1 _ (List.mem_of_getElem? (i := 15) (by decide +kernel)), wr_11 _ (List.mem_of_getElem? (i := 12) (by decide +kernel)), ⟨by decide +kernel, by decide +kernel⟩, by decide +kernel⟩
theorem cv_X6_83 : sj_V RX6 83 mX6_isThere 1 := ⟨wr_13 _ (List.mem_of_getElem? (i := 23) (by decide +kernel)), wr_14 _ (List.mem_of_getElem? (i := 0) (by decide +kernel)), wr_14 _ (List.mem_of_getElem? (i := 1) (by decide +kernel)), wr_1 _ (List.mem_of_getElem? (i := 2) (by decide +kernel)), wr_14 _ (List.mem_of_getElem? (i := 2) (by decide +kernel)), ⟨by decide +kernel, by decide +kernel⟩, by decide +kernel⟩
theorem cv_X6_92 : sj_V RX6 92 mX4_takeAway 1 := ⟨wr_14 _ (List.mem_of_getElem? (i := 3) (by decide +kernel)), wr_14 _ (List.mem_of_getElem? (i := 4) (by decide +kernel)), wr_14 _ (List.mem_of_getElem? (i := 5) (by decide +kernel)), wr_1 _ (List.mem_of_getElem? (i := 19) (by decide +kernel)), wr_14 _ (List.mem_of_getElem? (i := 6) (by decide +kernel)), ⟨by decide +kernel, by decide +kernel⟩, by decide +kernel⟩
theorem cv_X6_98 : sj_V RX6 98 mX4_growOlder 1 := ⟨wr_16 _ (List.mem_of_getElem? (i := 7) (by decide +kernel)), wr_16 _ (List.mem_of_getElem? (i := 8) (by decide +kernel)), wr_16 _ (List.mem_of_getElem? (i := 9) (by decide +kernel)), wr_1 _ (List.mem_of_getElem? (i := 19) (by decide +kernel)), wr_16 _ (List.mem_of_getElem? (i := 10) (by decide +kernel)), ⟨by decide +kernel, by decide +kernel⟩, by decide +kernel⟩
theorem cv_X6_112 : sj_V RX6 112 mX2_at 1 := ⟨wr_17 _ (List.mem_of_getElem? (i := 10) (by decide +kernel)), wr_4 _ (List.mem_of_getElem? (i := 23) (by decide +kernel)), wr_5 _ (List.mem_of_getElem? (i := 0) (by decide +kernel)), wr_2 _ (List.mem_of_getElem? (i := 8) (by decide +kernel)), wr_5 _ (List.mem_of_getElem? (i := 1) (by decide +kernel)), ⟨by decide +kernel, by decide +kernel⟩, by decide +kernel⟩
theorem cv_X6_117 : sj_V RX6 117 mX2_put 2 := ⟨wr_17 _ (List.mem_of_getElem? (i := 11) (by decide +kernel)), wr_4 _ (List.mem_of_getElem? (i := 14) (by decide +kernel)), wr_4 _ (List.mem_of_getElem? (i := 15) (by decide +kernel)), wr_2 _ (List.mem_of_getElem? (i := 8) (by decide +kernel)), wr_4 _ (List.mem_of_getElem? (i := 16) (by decide +kernel)), ⟨by decide +kernel, by decide +kernel⟩, by decide +kernel⟩
theorem cv_X6_121 : sj_V RX6 121 mX6_areThere 2 := ⟨wr_18 _ (List.mem_of_getElem? (i := 2) (by decide +kernel)), wr_18 _ (List.mem_of_getElem? (i := 3) (by decide +kernel)), wr_18 _ (List.mem_of_getElem? (i := 4) (by decide +kernel)), wr_1 _ (List.mem_of_getElem? (i := 2) (by decide +kernel)), wr_18 _ (List.mem_of_getElem? (i := 5) (by decide +kernel)), ⟨by decide +kernel, by decide +kernel⟩, by decide +kernel⟩
theorem cv_X6_125 : sj_V RX6 125 mX4_reasonAgainst 3 := ⟨wr_18 _ (List.mem_of_getElem? (i := 6) (by decide +kernel)), wr_18 _ (List.mem_of_getElem? (i := 7) (by decide +kernel)), wr_18 _ (List.mem_of_getElem? (i := 8) (by decide +kernel)), wr_1 _ (List.mem_of_getElem? (i := 19) (by decide +kernel)), wr_18 _ (List.mem_of_getElem? (i := 9) (by decide +kernel)), ⟨by decide +kernel, by decide +kernel⟩, by decide +kernel⟩
theorem cv_X6_135 : sj_V RX6 135 mX1_add 3 := ⟨wr_20 _ (List.mem_of_getElem? (i := 14) (by decide +kernel)), wr_20 _ (List.mem_of_getElem? (i := 15) (by decide +kernel)), wr_20 _ (List.mem_of_getElem? (i := 16) (by decide +kernel)), wr_3 _ (List.mem_of_getElem? (i := 9) (by decide +kernel)), wr_20 _ (List.mem_of_getElem? (i := 17) (by decide +kernel)), ⟨by decide +kernel, by decide +kernel⟩, by decide +kernel⟩
theorem cv_X6_141 : sj_V RX6 141 mX4_hands 0 := ⟨wr_20 _ (List.mem_of_getElem? (i := 18) (by decide +kernel)), wr_20 _ (List.mem_of_getElem? (i := 19) (by decide +kernel)), wr_20 _ (List.mem_of_getElem? (i := 20) (by decide +kernel)), wr_1 _ (List.mem_of_getElem? (i := 19) (by decide +kernel)), wr_20 _ (List.mem_of_getElem? (i := 21) (by decide +kernel)), ⟨by decide +kernel, by decide +kernel⟩, by decide +kernel⟩
theorem cv_X6_145 : sj_V RX6 145 mX1_placeOf 2 := ⟨wr_25 _ (List.mem_of_getElem? (i := 2) (by decide +kernel)), wr_18 _ (List.mem_of_getElem? (i := 11) (by decide +kernel)), wr_18 _ (List.mem_of_getElem? (i := 12) (by decide +kernel)), wr_3 _ (List.mem_of_getElem? (i := 9) (by decide +kernel)), wr_18 _ (List.mem_of_getElem? (i := 13) (by decide +kernel)), ⟨by decide +kernel, by decide +kernel⟩, by decide +kernel⟩
theorem cv_X6_149 : sj_V RX6 149 mX1_removeAt 1 := ⟨wr_25 _ (List.mem_of_getElem? (i := 3) (by decide +kernel)), wr_25 _ (List.mem_of_getElem? (i := 4) (by decide +kernel)), wr_25 _ (List.mem_of_getElem? (i := 5) (by decide +kernel)), wr_3 _ (List.mem_of_getElem? (i := 9) (by decide +kernel)), wr_25 _ (List.mem_of_getElem? (i := 6) (by decide +kernel)), ⟨by decide +kernel, by decide +kernel⟩, by decide +kernel⟩
theorem cv_X6_160 : sj_V RX6 160 mX5_add 1 := ⟨wr_25 _ (List.mem_of_getElem? (i := 18) (by decide +kernel)), wr_25 _ (List.mem_of_getElem? (i := 19) (by decide +kernel)), wr_25 _ (List.mem_of_getElem? (i := 20) (by decide +kernel)), wr_1 _ (List.mem_of_getElem? (i := 15) (by decide +kernel)), wr_25 _ (List.mem_of_getElem? (i := 21) (by decide +kernel)), ⟨by decide +kernel, by decide +kernel⟩, by decide +kernel⟩
theorem cv_X6_162 : sj_V RX6 162 mX5_readWorks 0 := ⟨wr_26 _ (List.mem_of_getElem? (i := 14) (by decide +kernel)), wr_26 _ (List.mem_of_getElem? (i := 15) (by decide +kernel)), wr_26 _ (List.mem_of_getElem? (i := 16) (by decide +kernel)), wr_1 _ (List.mem_of_getElem? (i := 15) (by decide +kernel)), wr_26 _ (List.mem_of_getElem? (i := 17) (by decide +kernel)), ⟨by decide +kernel, by decide +kernel⟩, by decide +kernel⟩
theorem cv_X6_170 : sj_V RX6 170 mX4_forgetStop 0 := ⟨wr_27 _ (List.mem_of_getElem? (i := 20) (by decide +kernel)), wr_27 _ (List.mem_of_getElem? (i := 21) (by decide +kernel)), wr_27 _ (List.mem_of_getElem? (i := 22) (by decide +kernel)), wr_1 _ (List.mem_of_getElem? (i := 19) (by decide +kernel)), wr_27 _ (List.mem_of_getElem? (i := 23) (by decide +kernel)), ⟨by decide +kernel, by decide +kernel⟩, by decide +kernel⟩
theorem cv_X6_176 : sj_V RX6 176 mX6_doPart 1 := ⟨wr_28 _ (List.mem_of_getElem? (i := 0) (by decide +kernel)), wr_28 _ (List.mem_of_getElem? (i := 1) (by decide +kernel)), wr_28 _ (List.mem_of_getElem? (i := 2) (by decide +kernel)), wr_1 _ (List.mem_of_getElem? (i := 2) (by decide +kernel)), wr_28 _ (List.mem_of_getElem? (i := 3) (by decide +kernel)), ⟨by decide +kernel, by decide +kernel⟩, by decide +kernel⟩
theorem cv_X6_190 : sj_V RX6 190 mX0_bringBack 1 := ⟨wr_29 _ (List.mem_of_getElem? (i := 14) (by decide +kernel)), wr_29 _ (List.mem_of_getElem? (i := 15) (by decide +kernel)), wr_29 _ (List.mem_of_getElem? (i := 16) (by decide +kernel)), wr_1 _ (List.mem_of_getElem? (i := 23) (by decide +kernel)), wr_29 _ (List.mem_of_getElem? (i := 17) (by decide +kernel)), ⟨by decide +kernel, by decide +kernel⟩, by decide +kernel⟩
theorem cv_X6_193 : sj_V RX6 193 mX4_takeOver 1 := ⟨wr_30 _ (List.mem_of_getElem? (i := 2) (by decide +kernel)), wr_9 _ (List.mem_of_getElem? (i := 1) (by decide +kernel)), wr_9 _ (List.mem_of_getElem? (i := 2) (by decide +kernel)), wr_1 _ (List.mem_of_getElem? (i := 19) (by decide +kernel)), wr_9 _ (List.mem_of_getElem? (i := 3) (by decide +kernel)), ⟨by decide +kernel, by decide +kernel⟩, by decide +kernel⟩
theorem cv_X6_200 : sj_V RX6 200 mX4_numberOfSheet 2 := ⟨wr_31 _ (List.mem_of_getElem? (i := 2) (by decide +kernel)), wr_31 _ (List.mem_of_getElem? (i := 3) (by decide +kernel)), wr_31 _ (List.mem_of_getElem? (i := 4) (by decide +kernel)), wr_1 _ (List.mem_of_getElem? (i := 19) (by decide +kernel)), wr_31 _ (List.mem_of_getElem? (i := 5) (by decide +kernel)), ⟨by decide +kernel, by decide +kernel⟩, by decide +kernel⟩
theorem cv_X6_205 : sj_V RX6 205 mX4_sheetAt 1 := ⟨wr_32 _ (List.mem_of_getElem? (i := 9) (by decide +kernel)), wr_19 _ (List.mem_of_getElem? (i := 3) (by decide +kernel)), wr_19 _ (List.mem_of_getElem? (i := 4) (by decide +kernel)), wr_1 _ (List.mem_of_getElem? (i := 19) (by decide +kernel)), wr_19 _ (List.mem_of_getElem? (i := 5) (by decide +kernel)), ⟨by decide +kernel, by decide +kernel⟩, by decide +kernel⟩
theorem cv_X6_209 : sj_V RX6 209 mX3_toldNumber 2 := ⟨wr_32 _ (List.mem_of_getElem? (i := 10) (by decide +kernel)), wr_32 _ (List.mem_of_getElem? (i := 11) (by decide +kernel)), wr_32 _ (List.mem_of_getElem? (i := 12) (by decide +kernel)), wr_3 _ (List.mem_of_getElem? (i := 2) (by decide +kernel)), wr_32 _ (List.mem_of_getElem? (i := 13) (by decide +kernel)), ⟨by decide +kernel, by decide +kernel⟩, by decide +kernel⟩
theorem cv_X6_214 : sj_V RX6 214 mX3_toldMark 1 := ⟨wr_33 _ (List.mem_of_getElem? (i := 5) (by decide +kernel)), wr_33 _ (List.mem_of_getElem? (i := 6) (by decide +kernel)), wr_33 _ (List.mem_of_getElem? (i := 7) (by decide +kernel)), wr_3 _ (List.mem_of_getElem? (i := 2) (by decide +kernel)), wr_33 _ (List.mem_of_getElem? (i := 8) (by decide +kernel)), ⟨by decide +kernel, by decide +kernel⟩, by decide +kernel⟩
theorem cv_X6_219 : sj_V RX6 219 mX4_comparison 3 := ⟨wr_33 _ (List.mem_of_getElem? (i := 20) (by decide +kernel)), wr_33 _ (List.mem_of_getElem? (i := 21) (by decide +kernel)), wr_33 _ (List.mem_of_getElem? (i := 22) (by decide +kernel)), wr_1 _ (List.mem_of_getElem? (i := 19) (by decide +kernel)), wr_33 _ (List.mem_of_getElem? (i := 23) (by decide +kernel)), ⟨by decide +kernel, by decide +kernel⟩, by decide +kernel⟩
theorem cv_X6_226 : sj_V RX6 226 mX1_numberOf 2 := ⟨wr_35 _ (List.mem_of_getElem? (i := 4) (by decide +kernel)), wr_35 _ (List.mem_of_getElem? (i := 5) (by decide +kernel)), wr_35 _ (List.mem_of_getElem? (i := 6) (by decide +kernel)), wr_3 _ (List.mem_of_getElem? (i := 9) (by decide +kernel)), wr_35 _ (List.mem_of_getElem? (i := 7) (by decide +kernel)), ⟨by decide +kernel, by decide +kernel⟩, by decide +kernel⟩
theorem cv_X6_231 : sj_V RX6 231 mX6_toldCount 1 := ⟨wr_36 _ (List.mem_of_getElem? (i := 8) (by decide +kernel)), wr_36 _ (List.mem_of_getElem? (i := 9) (by decide +kernel)), wr_36 _ (List.mem_of_getElem? (i := 10) (by decide +kernel)), wr_1 _ (List.mem_of_getElem? (i := 2) (by decide +kernel)), wr_36 _ (List.mem_of_getElem? (i := 11) (by decide +kernel)), ⟨by decide +kernel, by decide +kernel⟩, by decide +kernel⟩
theorem cv_X6_234 : sj_V RX6 234 mX4_mostAlike 1 := ⟨wr_39 _ (List.mem_of_getElem? (i := 3) (by decide +kernel)), wr_39 _ (List.mem_of_getElem? (i := 4) (by decide +kernel)), wr_39 _ (List.mem_of_getElem? (i := 5) (by decide +kernel)), wr_1 _ (List.mem_of_getElem? (i := 19) (by decide +kernel)), wr_39 _ (List.mem_of_getElem? (i := 6) (by decide +kernel)), ⟨by decide +kernel, by decide +kernel⟩, by decide +kernel⟩
theorem cv_X6_237 : sj_V RX6 237 mX4_neededTolerance 3 := ⟨wr_39 _ (List.mem_of_getElem? (i := 22) (by decide +kernel)), wr_39 _ (List.mem_of_getElem? (i := 23) (by decide +kernel)), wr_40 _ (List.mem_of_getElem? (i := 0) (by decide +kernel)), wr_1 _ (List.mem_of_getElem? (i := 19) (by decide +kernel)), wr_40 _ (List.mem_of_getElem? (i := 1) (by decide +kernel)), ⟨by decide +kernel, by decide +kernel⟩, by decide +kernel⟩
theorem cv_X6_240 : sj_V RX6 240 mX4_likeness 3 := ⟨wr_40 _ (List.mem_of_getElem? (i := 17) (by decide +kernel)), wr_19 _ (List.mem_of_getElem? (i := 8) (by decide +kernel)), wr_19 _ (List.mem_of_getElem? (i := 9) (by decide +kernel)), wr_1 _ (List.mem_of_getElem? (i := 19) (by decide +kernel)), wr_19 _ (List.mem_of_getElem? (i := 10) (by decide +kernel)), ⟨by decide +kernel, by decide +kernel⟩, by decide +kernel⟩
theorem cv_X6_243 : sj_V RX6 243 mX4_shareOfHands 0 := ⟨wr_41 _ (List.mem_of_getElem? (i := 14) (by decide +kernel)), wr_41 _ (List.mem_of_getElem? (i := 15) (by decide +kernel)), wr_41 _ (List.mem_of_getElem? (i := 16) (by decide +kernel)), wr_1 _ (List.mem_of_getElem? (i := 19) (by decide +kernel)), wr_41 _ (List.mem_of_getElem? (i := 17) (by decide +kernel)), ⟨by decide +kernel, by decide +kernel⟩, by decide +kernel⟩
theorem cv_X6_249 : sj_Vs RX6 249 mX6_mix 2 := ⟨wr_42 _ (List.mem_of_getElem? (i := 7) (by decide +kernel)), wr_42 _ (List.mem_of_getElem? (i := 8) (by decide +kernel)), wr_1 _ (List.mem_of_getElem? (i := 2) (by decide +kernel)), wr_42 _ (List.mem_of_getElem? (i := 9) (by decide +kernel)), ⟨by decide +kernel, by decide +kernel⟩, by decide +kernel⟩
theorem cv_X6_253 : sj_V RX6 253 mX6_mixSheet 2 := ⟨wr_42 _ (List.mem_of_getElem? (i := 11) (by decide +kernel)), wr_42 _ (List.mem_of_getElem? (i := 12) (by decide +kernel)), wr_42 _ (List.mem_of_getElem? (i := 13) (by decide +kernel)), wr_1 _ (List.mem_of_getElem? (i := 2) (by decide +kernel)), wr_42 _ (List.mem_of_getElem? (i := 14) (by decide +kernel)), ⟨by decide +kernel, by decide +kernel⟩, by decide +kernel⟩
theorem cv_X6_257 : sj_V RX6 257 mX6_mixPair 3 := ⟨wr_42 _ (List.mem_of_getElem? (i := 21) (by decide +kernel)), wr_42 _ (List.mem_of_getElem? (i := 22) (by decide +kernel)), wr_42 _ (List.mem_of_getElem? (i := 23) (by decide +kernel)), wr_1 _ (List.mem_of_getElem? (i := 2) (by decide +kernel)), wr_43 _ (List.mem_of_getElem? (i := 0) (by decide +kernel)), ⟨by decide +kernel, by decide +kernel⟩, by decide +kernel⟩
theorem cv_X6_261 : sj_Vs RX6 261 mX6_bitsOf 1 := ⟨wr_43 _ (List.mem_of_getElem? (i := 1) (by decide +kernel)), wr_43 _ (List.mem_of_getElem? (i := 2) (by decide +kernel)), wr_1 _ (List.mem_of_getElem? (i := 2) (by decide +kernel)), wr_43 _ (List.mem_of_getElem? (i := 3) (by decide +kernel)), ⟨by decide +kernel, by decide +kernel⟩, by decide +kernel⟩
theorem cv_X6_265 : sj_V RX6 265 mX5_mixInto 1 := ⟨wr_43 _ (List.mem_of_getElem? (i := 7) (by decide +kernel)), wr_43 _ (List.mem_of_getElem? (i := 8) (by decide +kernel)), wr_43 _ (List.mem_of_getElem? (i := 9) (by decide +kernel)), wr_1 _ (List.mem_of_getElem? (i := 15) (by decide +kernel)), wr_43 _ (List.mem_of_getElem? (i := 10) (by decide +kernel)), ⟨by decide +kernel, by decide +kernel⟩, by decide +kernel⟩
theorem cv_X6_278 : sj_V RX6 278 mX6_swearPart 3 := ⟨wr_28 _ (List.mem_of_getElem? (i := 4) (by decide +kernel)), wr_28 _ (List.mem_of_getElem? (i := 5) (by decide +kernel)), wr_28 _ (List.mem_of_getElem? (i := 6) (by decide +kernel)), wr_1 _ (List.mem_of_getElem? (i := 2) (by decide +kernel)), wr_28 _ (List.mem_of_getElem? (i := 7) (by decide +kernel)), ⟨by decide +kernel, by decide +kernel⟩, by decide +kernel⟩
theorem cv_X6_281 : sj_V RX6 281 mX4_numberOfAll 1 := ⟨wr_36 _ (List.mem_of_getElem? (i := 12) (by decide +kernel)), wr_36 _ (List.mem_of_getElem? (i := 13) (by decide +kernel)), wr_36 _ (List.mem_of_getElem? (i := 14) (by decide +kernel)), wr_1 _ (List.mem_of_getElem? (i := 19) (by decide +kernel)), wr_36 _ (List.mem_of_getElem? (i := 15) (by decide +kernel)), ⟨by decide +kernel, by decide +kernel⟩, by decide +kernel⟩
theorem cv_X6_284 : sj_V RX6 284 mX3_mixInto 1 := ⟨wr_42 _ (List.mem_of_getElem? (i := 15) (by decide +kernel)), wr_42 _ (List.mem_of_getElem? (i := 16) (by decide +kernel)), wr_42 _ (List.mem_of_getElem? (i := 17) (by decide +kernel)), wr_3 _ (List.mem_of_getElem? (i := 2) (by decide +kernel)), wr_42 _ (List.mem_of_getElem? (i := 18) (by decide +kernel)), ⟨by decide +kernel, by decide +kernel⟩, by decide +kernel⟩
theorem cv_X7_35 : sj_Vs RX7 35 mX7_within 3 := ⟨wr_12 _ (List.mem_of_getElem? (i := 21) (by decide +kernel)), wr_12 _ (List.mem_of_getElem? (i := 22) (by decide +kernel)), wr_1 _ (List.mem_of_getElem? (i := 5) (by decide +kernel)), wr_12 _ (List.mem_of_getElem? (i := 23) (by decide +kernel)), ⟨by decide +kernel, by decide +kernel⟩, by decide +kernel⟩
theorem cv_X7_39 : sj_V RX7 39 mX7_of 2 := ⟨wr_16 _ (List.mem_of_getElem? (i := 22) (by decide +kernel)), wr_16 _ (List.mem_of_getElem? (i := 23) (by decide +kernel)), wr_17 _ (List.mem_of_getElem? (i := 0) (by decide +kernel)), wr_1 _ (List.mem_of_getElem? (i := 5) (by decide +kernel)), wr_17 _ (List.mem_of_getElem? (i := 1) (by decide +kernel)), ⟨by decide +kernel, by decide +kernel⟩, by decide +kernel⟩
theorem cv_X7_46 : sj_V RX7 46 mX7_fails 1 := ⟨wr_13 _ (List.mem_of_getElem? (i := 0) (by decide +kernel)), wr_13 _ (List.mem_of_getElem? (i := 1) (by decide +kernel)), wr_13 _ (List.mem_of_getElem? (i := 2) (by decide +kernel)), wr_1 _ (List.mem_of_getElem? (i := 5) (by decide +kernel)), wr_13 _ (List.mem_of_getElem? (i := 3) (by decide +kernel)), ⟨by decide +kernel, by decide +kernel⟩, by decide +kernel⟩
theorem cv_X7_54 : sj_V RX7 54 mX7_save 0 := ⟨wr_13 _ (List.mem_of_getElem? (i := 4) (by decide +kernel)), wr_13 _ (List.mem_of_getElem? (i := 5) (by decide +kernel)), wr_13 _ (List.mem_of_getElem? (i := 6) (by decide +kernel)), wr_1 _ (List.mem_of_getElem? (i := 5) (by decide +kernel)), wr_13 _ (List.mem_of_getElem? (i := 7) (by decide +kernel)), ⟨by decide +kernel, by decide +kernel⟩, by decide +kernel⟩
theorem cv_X7_57 : sj_V RX7 57 mX7_ofStroke 3 := ⟨wr_22 _ (List.mem_of_getElem? (i := 6) (by decide +kernel)), wr_22 _ (List.mem_of_getElem? (i := 7) (by decide +kernel)), wr_22 _ (List.mem_of_getElem? (i := 8) (by decide +kernel)), wr_1 _ (List.mem_of_getElem? (i := 5) (by decide +kernel)), wr_22 _ (List.mem_of_getElem? (i := 9) (by decide +kernel)), ⟨by decide +kernel, by decide +kernel⟩, by decide +kernel⟩
theorem cv_X7_61 : sj_V RX7 61 mX7_sumOf 2 := ⟨wr_22 _ (List.mem_of_getElem? (i := 2) (by decide +kernel)), wr_22 _ (List.mem_of_getElem? (i := 3) (by decide +kernel)), wr_22 _ (List.mem_of_getElem? (i := 4) (by decide +kernel)), wr_1 _ (List.mem_of_getElem? (i := 5) (by decide +kernel)), wr_22 _ (List.mem_of_getElem? (i := 5) (by decide +kernel)), ⟨by decide +kernel, by decide +kernel⟩, by decide +kernel⟩
theorem cv_X7_64 : sj_Vs RX7 64 mX7_sizeOf 1 := ⟨wr_24 _ (List.mem_of_getElem? (i := 1) (by decide +kernel)), wr_24 _ (List.mem_of_getElem? (i := 2) (by decide +kernel)), wr_1 _ (List.mem_of_getElem? (i := 5) (by decide +kernel)), wr_24 _ (List.mem_of_getElem? (i := 3) (by decide +kernel)), ⟨by decide +kernel, by decide +kernel⟩, by decide +kernel⟩
theorem cv_X7_67 : sj_Vs RX7 67 mX7_divided 2 := ⟨wr_23 _ (List.mem_of_getElem? (i := 10) (by decide +kernel)), wr_23 _ (List.mem_of_getElem? (i := 11) (by decide +kernel)), wr_1 _ (List.mem_of_getElem? (i := 5) (by decide +kernel)), wr_23 _ (List.mem_of_getElem? (i := 12) (by decide +kernel)), ⟨by decide +kernel, by decide +kernel⟩, by decide +kernel⟩
theorem cv_X7_70 : sj_V RX7 70 mX7_spread 1 := ⟨wr_23 _ (List.mem_of_getElem? (i := 13) (by decide +kernel)), wr_23 _ (List.mem_of_getElem? (i := 14) (by decide +kernel)), wr_23 _ (List.mem_of_getElem? (i := 15) (by decide +kernel)), wr_1 _ (List.mem_of_getElem? (i := 5) (by decide +kernel)), wr_23 _ (List.mem_of_getElem? (i := 16) (by decide +kernel)), ⟨by decide +kernel, by decide +kernel⟩, by decide +kernel⟩
theorem cv_X7_73 : sj_V RX7 73 mX7_loopHeight 1 := ⟨wr_23 _ (List.mem_of_getElem? (i := 17) (by decide +kernel)), wr_23 _ (List.mem_of_getElem? (i := 18) (by decide +kernel)), wr_23 _ (List.mem_of_getElem? (i := 19) (by decide +kernel)), wr_1 _ (List.mem_of_getElem? (i := 5) (by decide +kernel)), wr_23 _ (List.mem_of_getElem? (i := 20) (by decide +kernel)), ⟨by decide +kernel, by decide +kernel⟩, by decide +kernel⟩
theorem cv_X7_76 : sj_V RX7 76 mX7_unrest 1 := ⟨wr_23 _ (List.mem_of_getElem? (i := 21) (by decide +kernel)), wr_23 _ (List.mem_of_getElem? (i := 22) (by decide +kernel)), wr_23 _ (List.mem_of_getElem? (i := 23) (by decide +kernel)), wr_1 _ (List.mem_of_getElem? (i := 5) (by decide +kernel)), wr_24 _ (List.mem_of_getElem? (i := 0) (by decide +kernel)), ⟨by decide +kernel, by decide +kernel⟩, by decide +kernel⟩
theorem cv_X7_79 : sj_V RX7 79 mX7_hasFaded 1 := ⟨wr_22 _ (List.mem_of_getElem? (i := 22) (by decide +kernel)), wr_22 _ (List.mem_of_getElem? (i := 23) (by decide +kernel)), wr_23 _ (List.mem_of_getElem? (i := 0) (by decide +kernel)), wr_1 _ (List.mem_of_getElem? (i := 5) (by decide +kernel)), wr_23 _ (List.mem_of_getElem? (i := 1) (by decide +kernel)), ⟨by decide +kernel, by decide +kernel⟩, by decide +kernel⟩
theorem cv_X7_83 : sj_V RX7 83 mX7_markOf 2 := ⟨wr_23 _ (List.mem_of_getElem? (i := 6) (by decide +kernel)), wr_23 _ (List.mem_of_getElem? (i := 7) (by decide +kernel)), wr_23 _ (List.mem_of_getElem? (i := 8) (by decide +kernel)), wr_1 _ (List.mem_of_getElem? (i := 5) (by decide +kernel)), wr_23 _ (List.mem_of_getElem? (i := 9) (by decide +kernel)), ⟨by decide +kernel, by decide +kernel⟩, by decide +kernel⟩
theorem cv_X7_86 : sj_V RX7 86 mX7_isGone 3 := ⟨wr_22 _ (List.mem_of_getElem? (i := 18) (by decide +kernel)), wr_22 _ (List.mem_of_getElem? (i := 19) (by decide +kernel)), wr_22 _ (List.mem_of_getElem? (i := 20) (by decide +kernel)), wr_1 _ (List.mem_of_getElem? (i := 5) (by decide +kernel)), wr_22 _ (List.mem_of_getElem? (i := 21) (by decide +kernel)), ⟨by decide +kernel, by decide +kernel⟩, by decide +kernel⟩
theorem cv_X7_89 : sj_V RX7 89 mX7_differ 3 := ⟨wr_23 _ (List.mem_of_getElem? (i := 2) (by decide +kernel)), wr_23 _ (List.mem_of_getElem? (i := 3) (by decide +kernel)), wr_23 _ (List.mem_of_getElem? (i := 4) (by decide +kernel)), wr_1 _ (List.mem_of_getElem? (i := 5) (by decide +kernel)), wr_23 _ (List.mem_of_getElem? (i := 5) (by decide +kernel)), ⟨by decide +kernel, by decide +kernel⟩, by decide +kernel⟩
theorem cv_X7_92 : sj_V RX7 92 mX7_agreeing 2 := ⟨wr_22 _ (List.mem_of_getElem? (i := 14) (by decide +kernel)), wr_22 _ (List.mem_of_getElem? (i := 15) (by decide +kernel)), wr_22 _ (List.mem_of_getElem? (i := 16) (by decide +kernel)), wr_1 _ (List.mem_of_getElem? (i := 5) (by decide +kernel)), wr_22 _ (List.mem_of_getElem? (i := 17) (by decide +kernel)), ⟨by decide +kernel, by decide +kernel⟩, by decide +kernel⟩
theorem cv_X7_95 : sj_Vs RX7 95 mX7_ones 1 := ⟨wr_24 _ (List.mem_of_getElem? (i := 4) (by decide +kernel)), wr_24 _ (List.mem_of_getElem? (i := 5) (by decide +kernel)), wr_1 _ (List.mem_of_getElem? (i := 5) (by decide +kernel)), wr_24 _ (List.mem_of_getElem? (i := 6) (by decide +kernel)), ⟨by decide +kernel, by decide +kernel⟩, by decide +kernel⟩
theorem cv_X7_98 : sj_V RX7 98 mX7_ofOath 2 := ⟨wr_15 _ (List.mem_of_getElem? (i := 16) (by decide +kernel)), wr_15 _ (List.mem_of_getElem? (i := 17) (by decide +kernel)), wr_15 _ (List.mem_of_getElem? (i := 18) (by decide +kernel)), wr_1 _ (List.mem_of_getElem? (i := 5) (by decide +kernel)), wr_15 _ (List.mem_of_getElem? (i := 19) (by decide +kernel)), ⟨by decide +kernel, by decide +kernel⟩, by decide +kernel⟩
theorem cv_X7_101 : sj_V RX7 101 mX7_join 2 := ⟨wr_21 _ (List.mem_of_getElem? (i := 18) (by decide +kernel)), wr_21 _ (List.mem_of_getElem? (i := 19) (by decide +kernel)), wr_21 _ (List.mem_of_getElem? (i := 20) (by decide +kernel)), wr_1 _ (List.mem_of_getElem? (i := 5) (by decide +kernel)), wr_21 _ (List.mem_of_getElem? (i := 21) (by decide +kernel)), ⟨by decide +kernel, by decide +kernel⟩, by decide +kernel⟩
theorem cv_X7_105 : sj_V RX7 105 mX7_layHands 1 := ⟨wr_21 _ (List.mem_of_getElem? (i := 14) (by decide +kernel)), wr_21 _ (List.mem_of_getElem? (i := 15) (by decide +kernel)), wr_21 _ (List.mem_of_getElem? (i := 16) (by decide +kernel)), wr_1 _ (List.mem_of_getElem? (i := 5) (by decide +kernel)), wr_21 _ (List.mem_of_getElem? (i := 17) (by decide +kernel)), ⟨by decide +kernel, by decide +kernel⟩, by decide +kernel⟩
theorem cv_X7_109 : sj_V RX7 109 mX7_findOath 2 := ⟨wr_21 _ (List.mem_of_getElem? (i := 6) (by decide +kernel)), wr_21 _ (List.mem_of_getElem? (i := 7) (by decide +kernel)), wr_21 _ (List.mem_of_getElem? (i := 8) (by decide +kernel)), wr_1 _ (List.mem_of_getElem? (i := 5) (by decide +kernel)), wr_21 _ (List.mem_of_getElem? (i := 9) (by decide +kernel)), ⟨by decide +kernel, by decide +kernel⟩, by decide +kernel⟩
theorem cv_X7_112 : sj_V RX7 112 mX7_areOfOne 2 := ⟨wr_21 _ (List.mem_of_getElem? (i := 10) (by decide +kernel)), wr_21 _ (List.mem_of_getElem? (i := 11) (by decide +kernel)), wr_21 _ (List.mem_of_getElem? (i := 12) (by decide +kernel)), wr_1 _ (List.mem_of_getElem? (i := 5) (by decide +kernel)), wr_21 _ (List.mem_of_getElem? (i := 13) (by decide +kernel)), ⟨by decide +kernel, by decide +kernel⟩, by decide +kernel⟩
theorem cv_X7_116 : sj_V RX7 116 mX7_trembles 1 := ⟨wr_21 _ (List.mem_of_getElem? (i := 22) (by decide +kernel)), wr_21 _ (List.mem_of_getElem? (i := 23) (by decide +kernel)), wr_22 _ (List.mem_of_getElem? (i := 0) (by decide +kernel)), wr_1 _ (List.mem_of_getElem? (i := 5) (by decide +kernel)), wr_22 _ (List.mem_of_getElem? (i := 1) (by decide +kernel)), ⟨by decide +kernel, by decide +kernel⟩, by decide +kernel⟩
theorem cv_X7_119 : sj_V RX7 119 mX7_likeness 2 := ⟨wr_22 _ (List.mem_of_getElem? (i := 10) (by decide +kernel)), wr_22 _ (List.mem_of_getElem? (i := 11) (by decide +kernel)), wr_22 _ (List.mem_of_getElem? (i := 12) (by decide +kernel)), wr_1 _ (List.mem_of_getElem? (i := 5) (by decide +kernel)), wr_22 _ (List.mem_of_getElem? (i := 13) (by decide +kernel)), ⟨by decide +kernel, by decide +kernel⟩, by decide +kernel⟩
theorem cv_X7_122 : sj_V RX7 122 mX7_breaks 2 := ⟨wr_24 _ (List.mem_of_getElem? (i := 7) (by decide +kernel)), wr_24 _ (List.mem_of_getElem? (i := 8) (by decide +kernel)), wr_24 _ (List.mem_of_getElem? (i := 9) (by decide +kernel)), wr_1 _ (List.mem_of_getElem? (i := 5) (by decide +kernel)), wr_24 _ (List.mem_of_getElem? (i := 10) (by decide +kernel)), ⟨by decide +kernel, by decide +kernel⟩, by decide +kernel⟩
theorem cv_X7_125 : sj_V RX7 125 mX7_hands 0 := ⟨wr_24 _ (List.mem_of_getElem? (i := 15) (by decide +kernel)), wr_24 _ (List.mem_of_getElem? (i := 16) (by decide +kernel)), wr_24 _ (List.mem_of_getElem? (i := 17) (by decide +kernel)), wr_1 _ (List.mem_of_getElem? (i := 5) (by decide +kernel)), wr_24 _ (List.mem_of_getElem? (i := 18) (by decide +kernel)), ⟨by decide +kernel, by decide +kernel⟩, by decide +kernel⟩
theorem cv_X7_129 : sj_V RX7 129 mX7_dropOath 1 := ⟨wr_15 _ (List.mem_of_getElem? (i := 20) (by decide +kernel)), wr_15 _ (List.mem_of_getElem? (i := 21) (by decide +kernel)), wr_15 _ (List.mem_of_getElem? (i := 22) (by decide +kernel)), wr_1 _ (List.mem_of_getElem? (i := 5) (by decide +kernel)), wr_15 _ (List.mem_of_getElem? (i := 23) (by decide +kernel)), ⟨by decide +kernel, by decide +kernel⟩, by decide +kernel⟩
theorem cv_X7_132 : sj_V RX7 132 mX7_isSheetText 0 := ⟨wr_11 _ (List.mem_of_getElem? (i := 20) (by decide +kernel)), wr_11 _ (List.mem_of_getElem? (i := 21) (by decide +kernel)), wr_11 _ (List.mem_of_getElem? (i := 22) (by decide +kernel)), wr_1 _ (List.mem_of_getElem? (i := 5) (by decide +kernel)), wr_11 _ (List.mem_of_getElem? (i := 23) (by decide +kernel)), ⟨by decide +kernel, by decide +kernel⟩, by decide +kernel⟩
theorem cv_X7_142 : sj_V RX7 142 mX7_isSheet 1 := ⟨wr_15 _ (List.mem_of_getElem? (i := 8) (by decide +kernel)), wr_15 _ (List.mem_of_getElem? (i := 9) (by decide +kernel)), wr_15 _ (List.mem_of_getElem? (i := 10) (by decide +kernel)), wr_1 _ (List.mem_of_getElem? (i := 5) (by decide +kernel)), wr_15 _ (List.mem_of_getElem? (i := 11) (by decide +kernel)), ⟨by decide +kernel, by decide +kernel⟩, by decide +kernel⟩
theorem cv_X7_145 : sj_V RX7 145 mX7_drops 1 := ⟨wr_15 _ (List.mem_of_getElem? (i := 12) (by decide +kernel)), wr_15 _ (List.mem_of_getElem? (i := 13) (by decide +kernel)), wr_15 _ (List.mem_of_getElem? (i := 14) (by decide +kernel)), wr_1 _ (List.mem_of_getElem? (i := 5) (by decide +kernel)), wr_15 _ (List.mem_of_getElem? (i := 15) (by decide +kernel)), ⟨by decide +kernel, by decide +kernel⟩, by decide +kernel⟩
theorem cv_X7_148 : sj_V RX7 148 mX7_passes 1 := ⟨wr_16 _ (List.mem_of_getElem? (i := 18) (by decide +kernel)), wr_16 _ (List.mem_of_getElem? (i := 19) (by decide +kernel)), wr_16 _ (List.mem_of_getElem? (i := 20) (by decide +kernel)), wr_1 _ (List.mem_of_getElem? (i := 5) (by decide +kernel)), wr_16 _ (List.mem_of_getElem? (i := 21) (by decide +kernel)), ⟨by decide +kernel, by decide +kernel⟩, by decide +kernel⟩
theorem cv_X7_151 : sj_Vs RX7 151 mX7_mostOf 1 := ⟨wr_17 _ (List.mem_of_getElem? (i := 16) (by decide +kernel)), wr_17 _ (List.mem_of_getElem? (i := 17) (by decide +kernel)), wr_1 _ (List.mem_of_getElem? (i := 5) (by decide +kernel)), wr_17 _ (List.mem_of_getElem? (i := 18) (by decide +kernel)), ⟨by decide +kernel, by decide +kernel⟩, by decide +kernel⟩
theorem cv_X7_154 : sj_V RX7 154 mX7_whyNotSworn 3 := ⟨wr_21 _ (List.mem_of_getElem? (i := 2) (by decide +kernel)), wr_21 _ (List.mem_of_getElem? (i := 3) (by decide +kernel)), wr_21 _ (List.mem_of_getElem? (i := 4) (by decide +kernel)), wr_1 _ (List.mem_of_getElem? (i := 5) (by decide +kernel)), wr_21 _ (List.mem_of_getElem? (i := 5) (by decide +kernel)), ⟨by decide +kernel, by decide +kernel⟩, by decide +kernel⟩
theorem cv_X7_158 : sj_V RX7 158 mX7_swears 3 := ⟨wr_24 _ (List.mem_of_getElem? (i := 11) (by decide +kernel)), wr_24 _ (List.mem_of_getElem? (i := 12) (by decide +kernel)), wr_24 _ (List.mem_of_getElem? (i := 13) (by decide +kernel)), wr_1 _ (List.mem_of_getElem? (i := 5) (by decide +kernel)), wr_24 _ (List.mem_of_getElem? (i := 14) (by decide +kernel)), ⟨by decide +kernel, by decide +kernel⟩, by decide +kernel⟩
theorem cv_X7_164 : sj_V RX7 164 mX7_next 0 := ⟨wr_12 _ (List.mem_of_getElem? (i := 13) (by decide +kernel)), wr_12 _ (List.mem_of_getElem? (i := 14) (by decide +kernel)), wr_12 _ (List.mem_of_getElem? (i := 15) (by decide +kernel)), wr_1 _ (List.mem_of_getElem? (i := 5) (by decide +kernel)), wr_12 _ (List.mem_of_getElem? (i := 16) (by decide +kernel)), ⟨by decide +kernel, by decide +kernel⟩, by decide +kernel⟩
theorem cv_X7_167 : sj_V RX7 167 mX7_takes 1 := ⟨wr_12 _ (List.mem_of_getElem? (i := 9) (by decide +kernel)), wr_12 _ (List.mem_of_getElem? (i := 10) (by decide +kernel)), wr_12 _ (List.mem_of_getElem? (i := 11) (by decide +kernel)), wr_1 _ (List.mem_of_getElem? (i := 5) (by decide +kernel)), wr_12 _ (List.mem_of_getElem? (i := 12) (by decide +kernel)), ⟨by decide +kernel, by decide +kernel⟩, by decide +kernel⟩
theorem cv_X7_170 : sj_V RX7 170 mX7_readNumber 2 := ⟨wr_12 _ (List.mem_of_getElem? (i := 17) (by decide +kernel)), wr_12 _ (List.mem_of_getElem? (i := 18) (by decide +kernel)), wr_12 _ (List.mem_of_getElem? (i := 19) (by decide +kernel)), wr_1 _ (List.mem_of_getElem? (i := 5) (by decide +kernel)), wr_12 _ (List.mem_of_getElem? (i := 20) (by decide +kernel)), ⟨by decide +kernel, by decide +kernel⟩, by decide +kernel⟩
theorem cv_X7_173 : sj_V RX7 173 mX7_readsStroke 0 := ⟨wr_12 _ (List.mem_of_getElem? (i := 5) (by decide +kernel)), wr_12 _ (List.mem_of_getElem? (i := 6) (by decide +kernel)), wr_12 _ (List.mem_of_getElem? (i := 7) (by decide +kernel)), wr_1 _ (List.mem_of_getElem? (i := 5) (by decide +kernel)), wr_12 _ (List.mem_of_getElem? (i := 8) (by decide +kernel)), ⟨by decide +kernel, by decide +kernel⟩, by decide +kernel⟩
theorem cv_X7_176 : sj_V RX7 176 mX7_findSheetError 0 := ⟨wr_12 _ (List.mem_of_getElem? (i := 0) (by decide +kernel)), wr_12 _ (List.mem_of_getElem? (i := 1) (by decide +kernel)), wr_12 _ (List.mem_of_getElem? (i := 2) (by decide +kernel)), wr_1 _ (List.mem_of_getElem? (i := 5) (by decide +kernel)), wr_12 _ (List.mem_of_getElem? (i := 3) (by decide +kernel)), ⟨by decide +kernel, by decide +kernel⟩, by decide +kernel⟩
theorem cv_X7_188 : sj_V RX7 188 mX7_readsPart 0 := ⟨wr_27 _ (List.mem_of_getElem? (i := 6) (by decide +kernel)), wr_27 _ (List.mem_of_getElem? (i := 7) (by decide +kernel)), wr_27 _ (List.mem_of_getElem? (i := 8) (by decide +kernel)), wr_1 _ (List.mem_of_getElem? (i := 5) (by decide +kernel)), wr_27 _ (List.mem_of_getElem? (i := 9) (by decide +kernel)), ⟨by decide +kernel, by decide +kernel⟩, by decide +kernel⟩
theorem cv_X7_191 : sj_V RX7 191 mX7_findWorksError 0 := ⟨wr_27 _ (List.mem_of_getElem? (i := 2) (by decide +kernel)), wr_27 _ (List.mem_of_getElem? (i := 3) (by decide +kernel)), wr_27 _ (List.mem_of_getElem? (i := 4) (by decide +kernel)), wr_1 _ (List.mem_of_getElem? (i := 5) (by decide +kernel)), wr_27 _ (List.mem_of_getElem? (i := 5) (by decide +kernel)), ⟨by decide +kernel, by decide +kernel⟩, by decide +kernel⟩
theorem cv_X7_194 : sj_V RX7 194 mX7_whyNotPart 0 := ⟨wr_28 _ (List.mem_of_getElem? (i := 12) (by decide +kernel)), wr_28 _ (List.mem_of_getElem? (i := 13) (by decide +kernel)), wr_28 _ (List.mem_of_getElem? (i := 14) (by decide +kernel)), wr_1 _ (List.mem_of_getElem? (i := 5) (by decide +kernel)), wr_28 _ (List.mem_of_getElem? (i := 15) (by decide +kernel)), ⟨by decide +kernel, by decide +kernel⟩, by decide +kernel⟩
theorem cv_X7_197 : sj_V RX7 197 mX7_doPart 0 := ⟨wr_28 _ (List.mem_of_getElem? (i := 16) (by decide +kernel)), wr_28 _ (List.mem_of_getElem? (i := 17) (by decide +kernel)), wr_28 _ (List.mem_of_getElem? (i := 18) (by decide +kernel)), wr_1 _ (List.mem_of_getElem? (i := 5) (by decide +kernel)), wr_28 _ (List.mem_of_getElem? (i := 19) (by decide +kernel)), ⟨by decide +kernel, by decide +kernel⟩, by decide +kernel⟩
theorem cv_X7_200 : sj_V RX7 200 mX7_handOf 1 := ⟨wr_31 _ (List.mem_of_getElem? (i := 18) (by decide +kernel)), wr_31 _ (List.mem_of_getElem? (i := 19) (by decide +kernel)), wr_31 _ (List.mem_of_getElem? (i := 20) (by decide +kernel)), wr_1 _ (List.mem_of_getElem? (i := 5) (by decide +kernel)), wr_31 _ (List.mem_of_getElem? (i := 21) (by decide +kernel)), ⟨by decide +kernel, by decide +kernel⟩, by decide +kernel⟩
theorem cv_X7_203 : sj_V RX7 203 mX7_oathsOf 1 := ⟨wr_31 _ (List.mem_of_getElem? (i := 22) (by decide +kernel)), wr_31 _ (List.mem_of_getElem? (i := 23) (by decide +kernel)), wr_32 _ (List.mem_of_getElem? (i := 0) (by decide +kernel)), wr_1 _ (List.mem_of_getElem? (i := 5) (by decide +kernel)), wr_32 _ (List.mem_of_getElem? (i := 1) (by decide +kernel)), ⟨by decide +kernel, by decide +kernel⟩, by decide +kernel⟩
theorem cv_X7_206 : sj_V RX7 206 mX7_tellsSheet 2 := ⟨wr_31 _ (List.mem_of_getElem? (i := 14) (by decide +kernel)), wr_31 _ (List.mem_of_getElem? (i := 15) (by decide +kernel)), wr_31 _ (List.mem_of_getElem? (i := 16) (by decide +kernel)), wr_1 _ (List.mem_of_getElem? (i := 5) (by decide +kernel)), wr_31 _ (List.mem_of_getElem? (i := 17) (by decide +kernel)), ⟨by decide +kernel, by decide +kernel⟩, by decide +kernel⟩
theorem cv_X7_209 : sj_V RX7 209 mX7_tellsStroke 3 := ⟨wr_32 _ (List.mem_of_getElem? (i := 18) (by decide +kernel)), wr_32 _ (List.mem_of_getElem? (i := 19) (by decide +kernel)), wr_32 _ (List.mem_of_getElem? (i := 20) (by decide +kernel)), wr_1 _ (List.mem_of_getElem? (i := 5) (by decide +kernel)), wr_32 _ (List.mem_of_getElem? (i := 21) (by decide +kernel)), ⟨by decide +kernel, by decide +kernel⟩, by decide +kernel⟩
theorem cv_X7_212 : sj_V RX7 212 mX7_tellsOathOf 2 := ⟨wr_34 _ (List.mem_of_getElem? (i := 17) (by decide +kernel)), wr_34 _ (List.mem_of_getElem? (i := 18) (by decide +kernel)), wr_34 _ (List.mem_of_getElem? (i := 19) (by decide +kernel)), wr_1 _ (List.mem_of_getElem? (i := 5) (by decide +kernel)), wr_34 _ (List.mem_of_getElem? (i := 20) (by decide +kernel)), ⟨by decide +kernel, by decide +kernel⟩, by decide +kernel⟩
theorem cv_X7_215 : sj_V RX7 215 mX7_compares 3 := ⟨wr_34 _ (List.mem_of_getElem? (i := 13) (by decide +kernel)), wr_34 _ (List.mem_of_getElem? (i := 14) (by decide +kernel)), wr_34 _ (List.mem_of_getElem? (i := 15) (by decide +kernel)), wr_1 _ (List.mem_of_getElem? (i := 5) (by decide +kernel)), wr_34 _ (List.mem_of_getElem? (i := 16) (by decide +kernel)), ⟨by decide +kernel, by decide +kernel⟩, by decide +kernel⟩
theorem cv_X7_218 : sj_V RX7 218 mX7_holds 1 := ⟨wr_35 _ (List.mem_of_getElem? (i := 21) (by decide +kernel)), wr_35 _ (List.mem_of_getElem? (i := 22) (by decide +kernel)), wr_35 _ (List.mem_of_getElem? (i := 23) (by decide +kernel)), wr_1 _ (List.mem_of_getElem? (i := 5) (by decide +kernel)), wr_36 _ (List.mem_of_getElem? (i := 0) (by decide +kernel)), ⟨by decide +kernel, by decide +kernel⟩, by decide +kernel⟩
theorem cv_X7_221 : sj_V RX7 221 mX7_tellsOath 2 := ⟨wr_35 _ (List.mem_of_getElem? (i := 17) (by decide +kernel)), wr_35 _ (List.mem_of_getElem? (i := 18) (by decide +kernel)), wr_35 _ (List.mem_of_getElem? (i := 19) (by decide +kernel)), wr_1 _ (List.mem_of_getElem? (i := 5) (by decide +kernel)), wr_35 _ (List.mem_of_getElem? (i := 20) (by decide +kernel)), ⟨by decide +kernel, by decide +kernel⟩, by decide +kernel⟩
theorem cv_X7_224 : sj_V RX7 224 mX7_likeOaths 0 := ⟨wr_37 _ (List.mem_of_getElem? (i := 17) (by decide +kernel)), wr_37 _ (List.mem_of_getElem? (i := 18) (by decide +kernel)), wr_37 _ (List.mem_of_getElem? (i := 19) (by decide +kernel)), wr_1 _ (List.mem_of_getElem? (i := 5) (by decide +kernel)), wr_37 _ (List.mem_of_getElem? (i := 20) (by decide +kernel)), ⟨by decide +kernel, by decide +kernel⟩, by decide +kernel⟩
theorem cv_X7_227 : sj_V RX7 227 mX7_mostOfHand 0 := ⟨wr_37 _ (List.mem_of_getElem? (i := 21) (by decide +kernel)), wr_37 _ (List.mem_of_getElem? (i := 22) (by decide +kernel)), wr_37 _ (List.mem_of_getElem? (i := 23) (by decide +kernel)), wr_1 _ (List.mem_of_getElem? (i := 5) (by decide +kernel)), wr_38 _ (List.mem_of_getElem? (i := 0) (by decide +kernel)), ⟨by decide +kernel, by decide +kernel⟩, by decide +kernel⟩
theorem cv_X7_230 : sj_V RX7 230 mX7_trembling 0 := ⟨wr_38 _ (List.mem_of_getElem? (i := 1) (by decide +kernel)), wr_38 _ (List.mem_of_getElem? (i := 2) (by decide +kernel)), wr_38 _ (List.mem_of_getElem? (i := 3) (by decide +kernel)), wr_1 _ (List.mem_of_getElem? (i := 5) (by decide +kernel)), wr_38 _ (List.mem_of_getElem? (i := 4) (by decide +kernel)), ⟨by decide +kernel, by decide +kernel⟩, by decide +kernel⟩
theorem cv_X7_233 : sj_V RX7 233 mX7_likePairs 0 := ⟨wr_38 _ (List.mem_of_getElem? (i := 5) (by decide +kernel)), wr_38 _ (List.mem_of_getElem? (i := 6) (by decide +kernel)), wr_38 _ (List.mem_of_getElem? (i := 7) (by decide +kernel)), wr_1 _ (List.mem_of_getElem? (i := 5) (by decide +kernel)), wr_38 _ (List.mem_of_getElem? (i := 8) (by decide +kernel)), ⟨by decide +kernel, by decide +kernel⟩, by decide +kernel⟩
theorem cv_X7_236 : sj_V RX7 236 mX7_tellsCount 1 := ⟨wr_37 _ (List.mem_of_getElem? (i := 13) (by decide +kernel)), wr_37 _ (List.mem_of_getElem? (i := 14) (by decide +kernel)), wr_37 _ (List.mem_of_getElem? (i := 15) (by decide +kernel)), wr_1 _ (List.mem_of_getElem? (i := 5) (by decide +kernel)), wr_37 _ (List.mem_of_getElem? (i := 16) (by decide +kernel)), ⟨by decide +kernel, by decide +kernel⟩, by decide +kernel⟩
theorem cv_X7_239 : sj_V RX7 239 mX7_mostAlike 1 := ⟨wr_39 _ (List.mem_of_getElem? (i := 11) (by decide +kernel)), wr_39 _ (List.mem_of_getElem? (i := 12) (by decide +kernel)), wr_39 _ (List.mem_of_getElem? (i := 13) (by decide +kernel)), wr_1 _ (List.mem_of_getElem? (i := 5) (by decide +kernel)), wr_39 _ (List.mem_of_getElem? (i := 14) (by decide +kernel)), ⟨by decide +kernel, by decide +kernel⟩, by decide +kernel⟩
theorem cv_X7_242 : sj_V RX7 242 mX7_tolerance 3 := ⟨wr_40 _ (List.mem_of_getElem? (i := 6) (by decide +kernel)), wr_40 _ (List.mem_of_getElem? (i := 7) (by decide +kernel)), wr_40 _ (List.mem_of_getElem? (i := 8) (by decide +kernel)), wr_1 _ (List.mem_of_getElem? (i := 5) (by decide +kernel)), wr_40 _ (List.mem_of_getElem? (i := 9) (by decide +kernel)), ⟨by decide +kernel, by decide +kernel⟩, by decide +kernel⟩
theorem cv_X7_245 : sj_V RX7 245 mX7_putAside 0 := ⟨wr_41 _ (List.mem_of_getElem? (i := 2) (by decide +kernel)), wr_41 _ (List.mem_of_getElem? (i := 3) (by decide +kernel)), wr_41 _ (List.mem_of_getElem? (i := 4) (by decide +kernel)), wr_1 _ (List.mem_of_getElem? (i := 5) (by decide +kernel)), wr_41 _ (List.mem_of_getElem? (i := 5) (by decide +kernel)), ⟨by decide +kernel, by decide +kernel⟩, by decide +kernel⟩
theorem cv_X7_248 : sj_V RX7 248 mX7_takeBack 0 := ⟨wr_41 _ (List.mem_of_getElem? (i := 6) (by decide +kernel)), wr_41 _ (List.mem_of_getElem? (i := 7) (by decide +kernel)), wr_41 _ (List.mem_of_getElem? (i := 8) (by decide +kernel)), wr_1 _ (List.mem_of_getElem? (i := 5) (by decide +kernel)), wr_41 _ (List.mem_of_getElem? (i := 9) (by decide +kernel)), ⟨by decide +kernel, by decide +kernel⟩, by decide +kernel⟩
theorem cv_X7_251 : sj_V RX7 251 mX7_wouldPass 3 := ⟨wr_40 _ (List.mem_of_getElem? (i := 22) (by decide +kernel)), wr_40 _ (List.mem_of_getElem? (i := 23) (by decide +kernel)), wr_41 _ (List.mem_of_getElem? (i := 0) (by decide +kernel)), wr_1 _ (List.mem_of_getElem? (i := 5) (by decide +kernel)), wr_41 _ (List.mem_of_getElem? (i := 1) (by decide +kernel)), ⟨by decide +kernel, by decide +kernel⟩, by decide +kernel⟩
theorem cv_X7_254 : sj_V RX7 254 mX7_share 0 := ⟨wr_41 _ (List.mem_of_getElem? (i := 22) (by decide +kernel)), wr_41 _ (List.mem_of_getElem? (i := 23) (by decide +kernel)), wr_42 _ (List.mem_of_getElem? (i := 0) (by decide +kernel)), wr_1 _ (List.mem_of_getElem? (i := 5) (by decide +kernel)), wr_42 _ (List.mem_of_getElem? (i := 1) (by decide +kernel)), ⟨by decide +kernel, by decide +kernel⟩, by decide +kernel⟩
theorem cv_X7_264 : sj_V RX7 264 mX7_mix 1 := ⟨wr_43 _ (List.mem_of_getElem? (i := 17) (by decide +kernel)), wr_43 _ (List.mem_of_getElem? (i := 18) (by decide +kernel)), wr_43 _ (List.mem_of_getElem? (i := 19) (by decide +kernel)), wr_1 _ (List.mem_of_getElem? (i := 5) (by decide +kernel)), wr_43 _ (List.mem_of_getElem? (i := 20) (by decide +kernel)), ⟨by decide +kernel, by decide +kernel⟩, by decide +kernel⟩
theorem cv_X7_270 : sj_V RX7 270 mX7_mixSheet 1 := ⟨wr_43 _ (List.mem_of_getElem? (i := 22) (by decide +kernel)), wr_43 _ (List.mem_of_getElem? (i := 23) (by decide +kernel)), wr_44 _ (List.mem_of_getElem? (i := 0) (by decide +kernel)), wr_1 _ (List.mem_of_getElem? (i := 5) (by decide +kernel)), wr_44 _ (List.mem_of_getElem? (i := 1) (by decide +kernel)), ⟨by decide +kernel, by decide +kernel⟩, by decide +kernel⟩
theorem cv_X7_273 : sj_Vs RX7 273 mJxe99ae_doubleToLongBits_ccdee 1 := ⟨wr_44 _ (List.mem_of_getElem? (i := 2) (by decide +kernel)), wr_44 _ (List.mem_of_getElem? (i := 3) (by decide +kernel)), wr_44 _ (List.mem_of_getElem? (i := 4) (by decide +kernel)), wr_44 _ (List.mem_of_getElem? (i := 5) (by decide +kernel)), ⟨by decide +kernel, by decide +kernel⟩, by decide +kernel⟩
end
section
/-! calls whose answers a relation tells, and that make nothing -/
theorem sj_callVp {X : sj_X} {M N : sj_M} (C : sj_C X M) {S : sj_St} {cl sl : Nat} {L : List (Option Value)} {pc idx n : Nat} {b : Nat} {As st rest : List Value} {Post : Option Value → sj_St → Prop} (q : Nat) (hq : pc + 3 = q) (hd : decode M.2.1 pc = .ok (.invokevirtual idx, 3)) (hV : sj_V M.1.cls idx N n) (hfit : sj_fit M N cl sl = true) (hM : sj_Ctr X.2.1 N (.ref b :: As) S Post) (hst : st = As.reverse ++ .ref b :: rest) (hn : As.length = n) (hcat : Nat.ble (rest.map fun v => v.category).sum 8 = true) (hb8 : sj_is S b N.1.cls) (h00 : N.2.2.2.2.2.2.1 = 0 ∧ N.2.2.2.2.2.2.2 = 0) (kk : ∀ (v : Option Value) (S' : sj_St), Post v S' → sj_G X S' cl sl L q (v.toList ++ rest)) : sj_G X S cl sl L pc st := by
  refine sj_callV C q hq hd hV hfit hM hst hn hcat hb8 (fun v S' hp => ?_)
  rw [h00.1, h00.2]
  exact kk v S' hp
theorem sj_callVNp {X : sj_X} {M N : sj_M} (C : sj_C X M) {S : sj_St} {cl sl : Nat} {L : List (Option Value)} {pc idx n : Nat} {b : Nat} {As st rest : List Value} {Post : Option Value → sj_St → Prop} (q : Nat) (hq : pc + 3 = q) (hd : decode M.2.1 pc = .ok (.invokevirtual idx, 3)) (hV : sj_Vn M.1.cls idx N n) (hfit : sj_fit M N cl sl = true) (hM : sj_Ctr X.2.1 N (.ref b :: As) S Post) (hst : st = As.reverse ++ .ref b :: rest) (hn : As.length = n) (hcat : Nat.ble (rest.map fun v => v.category).sum 8 = true) (hb8 : sj_is S b N.1.cls) (h00 : N.2.2.2.2.2.2.1 = 0 ∧ N.2.2.2.2.2.2.2 = 0) (kk : ∀ (v : Option Value) (S' : sj_St), Post v S' → sj_G X S' cl sl L q (v.toList ++ rest)) : sj_G X S cl sl L pc st := by
  refine sj_callVN C q hq hd hV hfit hM hst hn hcat hb8 (fun v S' hp => ?_)
  rw [h00.1, h00.2]
  exact kk v S' hp
theorem sj_callSp {X : sj_X} {M N : sj_M} (C : sj_C X M) {S : sj_St} {cl sl : Nat} {L : List (Option Value)} {pc idx n : Nat} {As st rest : List Value} {Post : Option Value → sj_St → Prop} (q : Nat) (hq : pc + 3 = q) (hd : decode M.2.1 pc = .ok (.invokestatic idx, 3)) (hV : sj_Vs M.1.cls idx N n) (hfit : sj_fit M N cl sl = true) (hM : sj_Ctr X.2.1 N (As) S Post) (hst : st = As.reverse ++ rest) (hn : As.length = n) (hcat : Nat.ble (rest.map fun v => v.category).sum 8 = true) (h00 : N.2.2.2.2.2.2.1 = 0 ∧ N.2.2.2.2.2.2.2 = 0) (kk : ∀ (v : Option Value) (S' : sj_St), Post v S' → sj_G X S' cl sl L q (v.toList ++ rest)) : sj_G X S cl sl L pc st := by
  refine sj_callS C q hq hd hV hfit hM hst hn hcat (fun v S' hp => ?_)
  rw [h00.1, h00.2]
  exact kk v S' hp
theorem sj_callSNp {X : sj_X} {M N : sj_M} (C : sj_C X M) {S : sj_St} {cl sl : Nat} {L : List (Option Value)} {pc idx n : Nat} {As st rest : List Value} {Post : Option Value → sj_St → Prop} (q : Nat) (hq : pc + 3 = q) (hd : decode M.2.1 pc = .ok (.invokestatic idx, 3)) (hV : sj_Vsn M.1.cls idx N n) (hfit : sj_fit M N cl sl = true) (hM : sj_Ctr X.2.1 N (As) S Post) (hst : st = As.reverse ++ rest) (hn : As.length = n) (hcat : Nat.ble (rest.map fun v => v.category).sum 8 = true) (h00 : N.2.2.2.2.2.2.1 = 0 ∧ N.2.2.2.2.2.2.2 = 0) (kk : ∀ (v : Option Value) (S' : sj_St), Post v S' → sj_G X S' cl sl L q (v.toList ++ rest)) : sj_G X S cl sl L pc st := by
  refine sj_callSN C q hq hd hV hfit hM hst hn hcat (fun v S' hp => ?_)
  rw [h00.1, h00.2]
  exact kk v S' hp
end
section
/-! numbers and small words -/
theorem sj_nmul (a b : Nat) : nI a * nI b = nI (a * b) := (Int32.ofNat_mul a b).symm
theorem sj_nsub {a b : Nat} (h : b ≤ a) : nI a - nI b = nI (a - b) := (Int32.ofNat_sub a b h).symm
theorem sj_n1 (a : Nat) : nI a + Int32.ofInt 1 = nI (a + 1) := nI_add a 1
theorem sj_n4 (a : Nat) : nI a + Int32.ofInt 4 = nI (a + 4) := nI_add a 4
theorem sj_m1 (a : Nat) : nI (a + 1) + Int32.ofInt (-1) = nI a := by
  rw [show Int32.ofInt (-1) = (-1 : Int32) from rfl, ← Int32.sub_eq_add_neg]
  exact nI_pred a
/-- a loop that counts up to n -/
theorem sj_down (P : Nat → Prop) (n : Nat) (h : ∀ k, k ≤ n → (k < n → P (k + 1)) → P k) : P 0 := by
  have key : ∀ j k, k + j = n → P k := by
    intro j
    induction j with
    | zero => intro k hk; exact h k (by omega) (fun hlt => absurd hlt (by omega))
    | succ j ih => intro k hk; exact h k (by omega) (fun _ => ih (k + 1) (by omega))
  exact key n 0 (by omega)
theorem sj_downFrom (P : Nat → Prop) (a n : Nat) (han : a ≤ n) (h : ∀ k, a ≤ k → k ≤ n → (k < n → P (k + 1)) → P k) : P a := by
  have key : ∀ j k, a ≤ k → k + j = n → P k := by
    intro j
    induction j with
    | zero => intro k h1 hk; exact h k h1 (by omega) (fun hlt => absurd hlt (by omega))
    | succ j ih => intro k h1 hk; exact h k h1 (by omega) (fun _ => ih (k + 1) (by omega) (by omega))
  exact key (n - a) a (Nat.le_refl a) (by omega)
def sj_bi (b : Bool) : Int32 := if b then 1 else 0
theorem sj_bi0 {b : Bool} : sj_bi b = 0 ↔ b = false := by cases b <;> decide
theorem sj_bin {b : Bool} : ¬ sj_bi b = 0 ↔ b = true := by cases b <;> decide
theorem sj_binar (b : Bool) : narrow .boolean (.int (sj_bi b)) = .int (sj_bi b) := by cases b <;> rfl
def sj_wi (v a b : Int32) : Bool := decide (a ≤ v) && decide (v ≤ b)
def sj_sz (v : Int32) : Int32 := if v < 0 then -v else v
/-- sums of a function over the first n places -/
def sj_sum (f : Nat → Int32) : Nat → Int32
  | 0 => 0
  | k + 1 => sj_sum f k + f k
theorem sj_wi_n {i n : Nat} (hi : i < 2 ^ 31) (hn : n < 2 ^ 31) : sj_wi (nI i) 0 (nI n) = decide (i ≤ n) := by
  unfold sj_wi
  rw [decide_eq_true (nI_pos' hi), Bool.true_and]
  exact decide_eq_decide.mpr (nI_leI hi hn)
theorem sj_wi_iff {v a b : Int32} : sj_wi v a b = true ↔ a ≤ v ∧ v ≤ b := by
  unfold sj_wi
  rw [Bool.and_eq_true, decide_eq_true_iff, decide_eq_true_iff]
theorem sj_nlt {x y : Int32} : ¬ x < y ↔ y ≤ x := Int32.not_lt
theorem sj_nle {x y : Int32} : ¬ x ≤ y ↔ y < x := Int32.not_le
end
section
theorem dX2_init_0 : decode cX2_init 0 = .ok (.aload_n 0, 1) := by decide +kernel
theorem dX2_init_1 : decode cX2_init 1 = .ok (.invokespecial 1, 3) := by decide +kernel
theorem dX2_init_4 : decode cX2_init 4 = .ok (.aload_n 0, 1) := by decide +kernel
theorem dX2_init_5 : decode cX2_init 5 = .ok (.iload_n 1, 1) := by decide +kernel
theorem dX2_init_6 : decode cX2_init 6 = .ok (.ifCond .ge 7, 3) := by decide +kernel
theorem dX2_init_9 : decode cX2_init 9 = .ok (.iconst 0, 1) := by decide +kernel
theorem dX2_init_10 : decode cX2_init 10 = .ok (.goto 4, 3) := by decide +kernel
theorem dX2_init_13 : decode cX2_init 13 = .ok (.iload_n 1, 1) := by decide +kernel
theorem dX2_init_14 : decode cX2_init 14 = .ok (.newarray .int, 2) := by decide +kernel
theorem dX2_init_16 : decode cX2_init 16 = .ok (.putfield 7, 3) := by decide +kernel
theorem dX2_init_19 : decode cX2_init 19 = .ok (.return_, 1) := by decide +kernel
theorem dX2_at_0 : decode cX2_at 0 = .ok (.iload_n 1, 1) := by decide +kernel
theorem dX2_at_1 : decode cX2_at 1 = .ok (.ifCond .lt 21, 3) := by decide +kernel
theorem dX2_at_4 : decode cX2_at 4 = .ok (.iload_n 1, 1) := by decide +kernel
theorem dX2_at_5 : decode cX2_at 5 = .ok (.aload_n 0, 1) := by decide +kernel
theorem dX2_at_6 : decode cX2_at 6 = .ok (.getfield 7, 3) := by decide +kernel
theorem dX2_at_9 : decode cX2_at 9 = .ok (.arraylength, 1) := by decide +kernel
theorem dX2_at_10 : decode cX2_at 10 = .ok (.if_icmp .ge 12, 3) := by decide +kernel
theorem dX2_at_13 : decode cX2_at 13 = .ok (.aload_n 0, 1) := by decide +kernel
theorem dX2_at_14 : decode cX2_at 14 = .ok (.getfield 7, 3) := by decide +kernel
theorem dX2_at_17 : decode cX2_at 17 = .ok (.iload_n 1, 1) := by decide +kernel
theorem dX2_at_18 : decode cX2_at 18 = .ok (.iaload, 1) := by decide +kernel
theorem dX2_at_19 : decode cX2_at 19 = .ok (.goto 4, 3) := by decide +kernel
theorem dX2_at_22 : decode cX2_at 22 = .ok (.iconst 0, 1) := by decide +kernel
theorem dX2_at_23 : decode cX2_at 23 = .ok (.ireturn, 1) := by decide +kernel
theorem dX2_put_0 : decode cX2_put 0 = .ok (.iload_n 1, 1) := by decide +kernel
theorem dX2_put_1 : decode cX2_put 1 = .ok (.ifCond .lt 19, 3) := by decide +kernel
theorem dX2_put_4 : decode cX2_put 4 = .ok (.iload_n 1, 1) := by decide +kernel
theorem dX2_put_5 : decode cX2_put 5 = .ok (.aload_n 0, 1) := by decide +kernel
theorem dX2_put_6 : decode cX2_put 6 = .ok (.getfield 7, 3) := by decide +kernel
theorem dX2_put_9 : decode cX2_put 9 = .ok (.arraylength, 1) := by decide +kernel
theorem dX2_put_10 : decode cX2_put 10 = .ok (.if_icmp .ge 10, 3) := by decide +kernel
theorem dX2_put_13 : decode cX2_put 13 = .ok (.aload_n 0, 1) := by decide +kernel
theorem dX2_put_14 : decode cX2_put 14 = .ok (.getfield 7, 3) := by decide +kernel
theorem dX2_put_17 : decode cX2_put 17 = .ok (.iload_n 1, 1) := by decide +kernel
theorem dX2_put_18 : decode cX2_put 18 = .ok (.iload_n 2, 1) := by decide +kernel
theorem dX2_put_19 : decode cX2_put 19 = .ok (.iastore, 1) := by decide +kernel
theorem dX2_put_20 : decode cX2_put 20 = .ok (.return_, 1) := by decide +kernel
theorem dX2_copyFrom_0 : decode cX2_copyFrom 0 = .ok (.aload_n 1, 1) := by decide +kernel
theorem dX2_copyFrom_1 : decode cX2_copyFrom 1 = .ok (.ifnonnull 4, 3) := by decide +kernel
theorem dX2_copyFrom_4 : decode cX2_copyFrom 4 = .ok (.return_, 1) := by decide +kernel
theorem dX2_copyFrom_5 : decode cX2_copyFrom 5 = .ok (.iconst 0, 1) := by decide +kernel
theorem dX2_copyFrom_6 : decode cX2_copyFrom 6 = .ok (.istore_n 2, 1) := by decide +kernel
theorem dX2_copyFrom_7 : decode cX2_copyFrom 7 = .ok (.iload_n 2, 1) := by decide +kernel
theorem dX2_copyFrom_8 : decode cX2_copyFrom 8 = .ok (.aload_n 0, 1) := by decide +kernel
theorem dX2_copyFrom_9 : decode cX2_copyFrom 9 = .ok (.getfield 7, 3) := by decide +kernel
theorem dX2_copyFrom_12 : decode cX2_copyFrom 12 = .ok (.arraylength, 1) := by decide +kernel
theorem dX2_copyFrom_13 : decode cX2_copyFrom 13 = .ok (.if_icmp .ge 30, 3) := by decide +kernel
theorem dX2_copyFrom_16 : decode cX2_copyFrom 16 = .ok (.iload_n 2, 1) := by decide +kernel
theorem dX2_copyFrom_17 : decode cX2_copyFrom 17 = .ok (.aload_n 1, 1) := by decide +kernel
theorem dX2_copyFrom_18 : decode cX2_copyFrom 18 = .ok (.getfield 7, 3) := by decide +kernel
theorem dX2_copyFrom_21 : decode cX2_copyFrom 21 = .ok (.arraylength, 1) := by decide +kernel
theorem dX2_copyFrom_22 : decode cX2_copyFrom 22 = .ok (.if_icmp .ge 21, 3) := by decide +kernel
theorem dX2_copyFrom_25 : decode cX2_copyFrom 25 = .ok (.aload_n 0, 1) := by decide +kernel
theorem dX2_copyFrom_26 : decode cX2_copyFrom 26 = .ok (.getfield 7, 3) := by decide +kernel
theorem dX2_copyFrom_29 : decode cX2_copyFrom 29 = .ok (.iload_n 2, 1) := by decide +kernel
theorem dX2_copyFrom_30 : decode cX2_copyFrom 30 = .ok (.aload_n 1, 1) := by decide +kernel
theorem dX2_copyFrom_31 : decode cX2_copyFrom 31 = .ok (.getfield 7, 3) := by decide +kernel
theorem dX2_copyFrom_34 : decode cX2_copyFrom 34 = .ok (.iload_n 2, 1) := by decide +kernel
theorem dX2_copyFrom_35 : decode cX2_copyFrom 35 = .ok (.iaload, 1) := by decide +kernel
theorem dX2_copyFrom_36 : decode cX2_copyFrom 36 = .ok (.iastore, 1) := by decide +kernel
theorem dX2_copyFrom_37 : decode cX2_copyFrom 37 = .ok (.iinc 2 1, 3) := by decide +kernel
theorem dX2_copyFrom_40 : decode cX2_copyFrom 40 = .ok (.goto (-33), 3) := by decide +kernel
theorem dX2_copyFrom_43 : decode cX2_copyFrom 43 = .ok (.return_, 1) := by decide +kernel
theorem dX2_closeUp_0 : decode cX2_closeUp 0 = .ok (.iload_n 1, 1) := by decide +kernel
theorem dX2_closeUp_1 : decode cX2_closeUp 1 = .ok (.ifCond .ge 7, 3) := by decide +kernel
theorem dX2_closeUp_4 : decode cX2_closeUp 4 = .ok (.iconst 0, 1) := by decide +kernel
theorem dX2_closeUp_5 : decode cX2_closeUp 5 = .ok (.goto 4, 3) := by decide +kernel
theorem dX2_closeUp_8 : decode cX2_closeUp 8 = .ok (.iload_n 1, 1) := by decide +kernel
theorem dX2_closeUp_9 : decode cX2_closeUp 9 = .ok (.istore_n 2, 1) := by decide +kernel
theorem dX2_closeUp_10 : decode cX2_closeUp 10 = .ok (.iload_n 2, 1) := by decide +kernel
theorem dX2_closeUp_11 : decode cX2_closeUp 11 = .ok (.aload_n 0, 1) := by decide +kernel
theorem dX2_closeUp_12 : decode cX2_closeUp 12 = .ok (.getfield 7, 3) := by decide +kernel
theorem dX2_closeUp_15 : decode cX2_closeUp 15 = .ok (.arraylength, 1) := by decide +kernel
theorem dX2_closeUp_16 : decode cX2_closeUp 16 = .ok (.iconst 1, 1) := by decide +kernel
theorem dX2_closeUp_17 : decode cX2_closeUp 17 = .ok (.isub, 1) := by decide +kernel
theorem dX2_closeUp_18 : decode cX2_closeUp 18 = .ok (.if_icmp .ge 23, 3) := by decide +kernel
theorem dX2_closeUp_21 : decode cX2_closeUp 21 = .ok (.aload_n 0, 1) := by decide +kernel
theorem dX2_closeUp_22 : decode cX2_closeUp 22 = .ok (.getfield 7, 3) := by decide +kernel
theorem dX2_closeUp_25 : decode cX2_closeUp 25 = .ok (.iload_n 2, 1) := by decide +kernel
theorem dX2_closeUp_26 : decode cX2_closeUp 26 = .ok (.aload_n 0, 1) := by decide +kernel
theorem dX2_closeUp_27 : decode cX2_closeUp 27 = .ok (.getfield 7, 3) := by decide +kernel
theorem dX2_closeUp_30 : decode cX2_closeUp 30 = .ok (.iload_n 2, 1) := by decide +kernel
theorem dX2_closeUp_31 : decode cX2_closeUp 31 = .ok (.iconst 1, 1) := by decide +kernel
theorem dX2_closeUp_32 : decode cX2_closeUp 32 = .ok (.iadd, 1) := by decide +kernel
theorem dX2_closeUp_33 : decode cX2_closeUp 33 = .ok (.iaload, 1) := by decide +kernel
theorem dX2_closeUp_34 : decode cX2_closeUp 34 = .ok (.iastore, 1) := by decide +kernel
theorem dX2_closeUp_35 : decode cX2_closeUp 35 = .ok (.iinc 2 1, 3) := by decide +kernel
theorem dX2_closeUp_38 : decode cX2_closeUp 38 = .ok (.goto (-28), 3) := by decide +kernel
theorem dX2_closeUp_41 : decode cX2_closeUp 41 = .ok (.return_, 1) := by decide +kernel
end
section
theorem dX7_init_0 : decode cX7_init 0 = .ok (.aload_n 0, 1) := by decide +kernel
theorem dX7_init_1 : decode cX7_init 1 = .ok (.invokespecial 1, 3) := by decide +kernel
theorem dX7_init_4 : decode cX7_init 4 = .ok (.aload_n 0, 1) := by decide +kernel
theorem dX7_init_5 : decode cX7_init 5 = .ok (.sipush 434, 3) := by decide +kernel
theorem dX7_init_8 : decode cX7_init 8 = .ok (.newarray .int, 2) := by decide +kernel
theorem dX7_init_10 : decode cX7_init 10 = .ok (.putfield 7, 3) := by decide +kernel
theorem dX7_init_13 : decode cX7_init 13 = .ok (.aload_n 0, 1) := by decide +kernel
theorem dX7_init_14 : decode cX7_init 14 = .ok (.sipush 434, 3) := by decide +kernel
theorem dX7_init_17 : decode cX7_init 17 = .ok (.newarray .int, 2) := by decide +kernel
theorem dX7_init_19 : decode cX7_init 19 = .ok (.putfield 13, 3) := by decide +kernel
theorem dX7_init_22 : decode cX7_init 22 = .ok (.aload_n 0, 1) := by decide +kernel
theorem dX7_init_23 : decode cX7_init 23 = .ok (.sipush 2604, 3) := by decide +kernel
theorem dX7_init_26 : decode cX7_init 26 = .ok (.newarray .int, 2) := by decide +kernel
theorem dX7_init_28 : decode cX7_init 28 = .ok (.putfield 16, 3) := by decide +kernel
theorem dX7_init_31 : decode cX7_init 31 = .ok (.aload_n 0, 1) := by decide +kernel
theorem dX7_init_32 : decode cX7_init 32 = .ok (.sipush 434, 3) := by decide +kernel
theorem dX7_init_35 : decode cX7_init 35 = .ok (.newarray .int, 2) := by decide +kernel
theorem dX7_init_37 : decode cX7_init 37 = .ok (.putfield 19, 3) := by decide +kernel
theorem dX7_init_40 : decode cX7_init 40 = .ok (.aload_n 0, 1) := by decide +kernel
theorem dX7_init_41 : decode cX7_init 41 = .ok (.bipush 60, 2) := by decide +kernel
theorem dX7_init_43 : decode cX7_init 43 = .ok (.newarray .int, 2) := by decide +kernel
theorem dX7_init_45 : decode cX7_init 45 = .ok (.putfield 22, 3) := by decide +kernel
theorem dX7_init_48 : decode cX7_init 48 = .ok (.aload_n 0, 1) := by decide +kernel
theorem dX7_init_49 : decode cX7_init 49 = .ok (.bipush 40, 2) := by decide +kernel
theorem dX7_init_51 : decode cX7_init 51 = .ok (.newarray .int, 2) := by decide +kernel
theorem dX7_init_53 : decode cX7_init 53 = .ok (.putfield 25, 3) := by decide +kernel
theorem dX7_init_56 : decode cX7_init 56 = .ok (.aload_n 0, 1) := by decide +kernel
theorem dX7_init_57 : decode cX7_init 57 = .ok (.bipush 8, 2) := by decide +kernel
theorem dX7_init_59 : decode cX7_init 59 = .ok (.newarray .int, 2) := by decide +kernel
theorem dX7_init_61 : decode cX7_init 61 = .ok (.putfield 28, 3) := by decide +kernel
theorem dX7_init_64 : decode cX7_init 64 = .ok (.aload_n 0, 1) := by decide +kernel
theorem dX7_init_65 : decode cX7_init 65 = .ok (.getfield 7, 3) := by decide +kernel
theorem dX7_init_68 : decode cX7_init 68 = .ok (.iconst 0, 1) := by decide +kernel
theorem dX7_init_69 : decode cX7_init 69 = .ok (.iconst 4, 1) := by decide +kernel
theorem dX7_init_70 : decode cX7_init 70 = .ok (.iastore, 1) := by decide +kernel
theorem dX7_init_71 : decode cX7_init 71 = .ok (.aload_n 0, 1) := by decide +kernel
theorem dX7_init_72 : decode cX7_init 72 = .ok (.getfield 7, 3) := by decide +kernel
theorem dX7_init_75 : decode cX7_init 75 = .ok (.iconst 1, 1) := by decide +kernel
theorem dX7_init_76 : decode cX7_init 76 = .ok (.bipush 10, 2) := by decide +kernel
theorem dX7_init_78 : decode cX7_init 78 = .ok (.iastore, 1) := by decide +kernel
theorem dX7_init_79 : decode cX7_init 79 = .ok (.aload_n 0, 1) := by decide +kernel
theorem dX7_init_80 : decode cX7_init 80 = .ok (.getfield 7, 3) := by decide +kernel
theorem dX7_init_83 : decode cX7_init 83 = .ok (.iconst 2, 1) := by decide +kernel
theorem dX7_init_84 : decode cX7_init 84 = .ok (.iconst 3, 1) := by decide +kernel
theorem dX7_init_85 : decode cX7_init 85 = .ok (.iastore, 1) := by decide +kernel
theorem dX7_init_86 : decode cX7_init 86 = .ok (.aload_n 0, 1) := by decide +kernel
theorem dX7_init_87 : decode cX7_init 87 = .ok (.getfield 7, 3) := by decide +kernel
theorem dX7_init_90 : decode cX7_init 90 = .ok (.iconst 3, 1) := by decide +kernel
theorem dX7_init_91 : decode cX7_init 91 = .ok (.bipush 20, 2) := by decide +kernel
theorem dX7_init_93 : decode cX7_init 93 = .ok (.iastore, 1) := by decide +kernel
theorem dX7_init_94 : decode cX7_init 94 = .ok (.aload_n 0, 1) := by decide +kernel
theorem dX7_init_95 : decode cX7_init 95 = .ok (.getfield 7, 3) := by decide +kernel
theorem dX7_init_98 : decode cX7_init 98 = .ok (.iconst 4, 1) := by decide +kernel
theorem dX7_init_99 : decode cX7_init 99 = .ok (.bipush 8, 2) := by decide +kernel
theorem dX7_init_101 : decode cX7_init 101 = .ok (.iastore, 1) := by decide +kernel
theorem dX7_init_102 : decode cX7_init 102 = .ok (.aload_n 0, 1) := by decide +kernel
theorem dX7_init_103 : decode cX7_init 103 = .ok (.getfield 7, 3) := by decide +kernel
theorem dX7_init_106 : decode cX7_init 106 = .ok (.iconst 5, 1) := by decide +kernel
theorem dX7_init_107 : decode cX7_init 107 = .ok (.bipush 6, 2) := by decide +kernel
theorem dX7_init_109 : decode cX7_init 109 = .ok (.iastore, 1) := by decide +kernel
theorem dX7_init_110 : decode cX7_init 110 = .ok (.aload_n 0, 1) := by decide +kernel
theorem dX7_init_111 : decode cX7_init 111 = .ok (.getfield 7, 3) := by decide +kernel
theorem dX7_init_114 : decode cX7_init 114 = .ok (.bipush 6, 2) := by decide +kernel
theorem dX7_init_116 : decode cX7_init 116 = .ok (.bipush 40, 2) := by decide +kernel
theorem dX7_init_118 : decode cX7_init 118 = .ok (.iastore, 1) := by decide +kernel
theorem dX7_init_119 : decode cX7_init 119 = .ok (.aload_n 0, 1) := by decide +kernel
theorem dX7_init_120 : decode cX7_init 120 = .ok (.getfield 7, 3) := by decide +kernel
theorem dX7_init_123 : decode cX7_init 123 = .ok (.bipush 7, 2) := by decide +kernel
theorem dX7_init_125 : decode cX7_init 125 = .ok (.iconst 2, 1) := by decide +kernel
theorem dX7_init_126 : decode cX7_init 126 = .ok (.iastore, 1) := by decide +kernel
theorem dX7_init_127 : decode cX7_init 127 = .ok (.aload_n 0, 1) := by decide +kernel
theorem dX7_init_128 : decode cX7_init 128 = .ok (.getfield 7, 3) := by decide +kernel
theorem dX7_init_131 : decode cX7_init 131 = .ok (.bipush 8, 2) := by decide +kernel
theorem dX7_init_133 : decode cX7_init 133 = .ok (.iconst 4, 1) := by decide +kernel
theorem dX7_init_134 : decode cX7_init 134 = .ok (.iastore, 1) := by decide +kernel
theorem dX7_init_135 : decode cX7_init 135 = .ok (.aload_n 0, 1) := by decide +kernel
theorem dX7_init_136 : decode cX7_init 136 = .ok (.getfield 7, 3) := by decide +kernel
theorem dX7_init_139 : decode cX7_init 139 = .ok (.bipush 12, 2) := by decide +kernel
theorem dX7_init_141 : decode cX7_init 141 = .ok (.iconst (-1), 1) := by decide +kernel
theorem dX7_init_142 : decode cX7_init 142 = .ok (.iastore, 1) := by decide +kernel
theorem dX7_init_143 : decode cX7_init 143 = .ok (.aload_n 0, 1) := by decide +kernel
theorem dX7_init_144 : decode cX7_init 144 = .ok (.getfield 7, 3) := by decide +kernel
theorem dX7_init_147 : decode cX7_init 147 = .ok (.bipush 13, 2) := by decide +kernel
theorem dX7_init_149 : decode cX7_init 149 = .ok (.iconst (-1), 1) := by decide +kernel
theorem dX7_init_150 : decode cX7_init 150 = .ok (.iastore, 1) := by decide +kernel
theorem dX7_init_151 : decode cX7_init 151 = .ok (.return_, 1) := by decide +kernel
theorem dX7_thrown_0 : decode cX7_thrown 0 = .ok (.aload_n 0, 1) := by decide +kernel
theorem dX7_thrown_1 : decode cX7_thrown 1 = .ok (.getfield 31, 3) := by decide +kernel
theorem dX7_thrown_4 : decode cX7_thrown 4 = .ok (.ireturn, 1) := by decide +kernel
theorem dX7_fails_0 : decode cX7_fails 0 = .ok (.aload_n 0, 1) := by decide +kernel
theorem dX7_fails_1 : decode cX7_fails 1 = .ok (.iload_n 1, 1) := by decide +kernel
theorem dX7_fails_2 : decode cX7_fails 2 = .ok (.putfield 31, 3) := by decide +kernel
theorem dX7_fails_5 : decode cX7_fails 5 = .ok (.iconst 0, 1) := by decide +kernel
theorem dX7_fails_6 : decode cX7_fails 6 = .ok (.ireturn, 1) := by decide +kernel
theorem dX7_within_0 : decode cX7_within 0 = .ok (.iload_n 0, 1) := by decide +kernel
theorem dX7_within_1 : decode cX7_within 1 = .ok (.iload_n 1, 1) := by decide +kernel
theorem dX7_within_2 : decode cX7_within 2 = .ok (.if_icmp .lt 12, 3) := by decide +kernel
theorem dX7_within_5 : decode cX7_within 5 = .ok (.iload_n 0, 1) := by decide +kernel
theorem dX7_within_6 : decode cX7_within 6 = .ok (.iload_n 2, 1) := by decide +kernel
theorem dX7_within_7 : decode cX7_within 7 = .ok (.if_icmp .gt 7, 3) := by decide +kernel
theorem dX7_within_10 : decode cX7_within 10 = .ok (.iconst 1, 1) := by decide +kernel
theorem dX7_within_11 : decode cX7_within 11 = .ok (.goto 4, 3) := by decide +kernel
theorem dX7_within_14 : decode cX7_within 14 = .ok (.iconst 0, 1) := by decide +kernel
theorem dX7_within_15 : decode cX7_within 15 = .ok (.ireturn, 1) := by decide +kernel
theorem dX7_sizeOf_0 : decode cX7_sizeOf 0 = .ok (.iload_n 0, 1) := by decide +kernel
theorem dX7_sizeOf_1 : decode cX7_sizeOf 1 = .ok (.ifCond .ge 8, 3) := by decide +kernel
theorem dX7_sizeOf_4 : decode cX7_sizeOf 4 = .ok (.iload_n 0, 1) := by decide +kernel
theorem dX7_sizeOf_5 : decode cX7_sizeOf 5 = .ok (.ineg, 1) := by decide +kernel
theorem dX7_sizeOf_6 : decode cX7_sizeOf 6 = .ok (.goto 4, 3) := by decide +kernel
theorem dX7_sizeOf_9 : decode cX7_sizeOf 9 = .ok (.iload_n 0, 1) := by decide +kernel
theorem dX7_sizeOf_10 : decode cX7_sizeOf 10 = .ok (.ireturn, 1) := by decide +kernel
theorem dX7_isSheet_0 : decode cX7_isSheet 0 = .ok (.iload_n 1, 1) := by decide +kernel
theorem dX7_isSheet_1 : decode cX7_isSheet 1 = .ok (.iconst 0, 1) := by decide +kernel
theorem dX7_isSheet_2 : decode cX7_isSheet 2 = .ok (.aload_n 0, 1) := by decide +kernel
theorem dX7_isSheet_3 : decode cX7_isSheet 3 = .ok (.getfield 7, 3) := by decide +kernel
theorem dX7_isSheet_6 : decode cX7_isSheet 6 = .ok (.bipush 9, 2) := by decide +kernel
theorem dX7_isSheet_8 : decode cX7_isSheet 8 = .ok (.iaload, 1) := by decide +kernel
theorem dX7_isSheet_9 : decode cX7_isSheet 9 = .ok (.iconst 1, 1) := by decide +kernel
theorem dX7_isSheet_10 : decode cX7_isSheet 10 = .ok (.isub, 1) := by decide +kernel
theorem dX7_isSheet_11 : decode cX7_isSheet 11 = .ok (.invokestatic 35, 3) := by decide +kernel
theorem dX7_isSheet_14 : decode cX7_isSheet 14 = .ok (.ireturn, 1) := by decide +kernel
theorem dX7_of_0 : decode cX7_of 0 = .ok (.aload_n 0, 1) := by decide +kernel
theorem dX7_of_1 : decode cX7_of 1 = .ok (.getfield 7, 3) := by decide +kernel
theorem dX7_of_4 : decode cX7_of 4 = .ok (.bipush 98, 2) := by decide +kernel
theorem dX7_of_6 : decode cX7_of 6 = .ok (.bipush 42, 2) := by decide +kernel
theorem dX7_of_8 : decode cX7_of 8 = .ok (.iload_n 1, 1) := by decide +kernel
theorem dX7_of_9 : decode cX7_of 9 = .ok (.imul, 1) := by decide +kernel
theorem dX7_of_10 : decode cX7_of 10 = .ok (.iadd, 1) := by decide +kernel
theorem dX7_of_11 : decode cX7_of 11 = .ok (.iload_n 2, 1) := by decide +kernel
theorem dX7_of_12 : decode cX7_of 12 = .ok (.iadd, 1) := by decide +kernel
theorem dX7_of_13 : decode cX7_of 13 = .ok (.iaload, 1) := by decide +kernel
theorem dX7_of_14 : decode cX7_of 14 = .ok (.ireturn, 1) := by decide +kernel
theorem dX7_ofStroke_0 : decode cX7_ofStroke 0 = .ok (.aload_n 0, 1) := by decide +kernel
theorem dX7_ofStroke_1 : decode cX7_ofStroke 1 = .ok (.iload_n 1, 1) := by decide +kernel
theorem dX7_ofStroke_2 : decode cX7_ofStroke 2 = .ok (.iconst 2, 1) := by decide +kernel
theorem dX7_ofStroke_3 : decode cX7_ofStroke 3 = .ok (.iconst 5, 1) := by decide +kernel
theorem dX7_ofStroke_4 : decode cX7_ofStroke 4 = .ok (.iload_n 2, 1) := by decide +kernel
theorem dX7_ofStroke_5 : decode cX7_ofStroke 5 = .ok (.imul, 1) := by decide +kernel
theorem dX7_ofStroke_6 : decode cX7_ofStroke 6 = .ok (.iadd, 1) := by decide +kernel
theorem dX7_ofStroke_7 : decode cX7_ofStroke 7 = .ok (.iload_n 3, 1) := by decide +kernel
theorem dX7_ofStroke_8 : decode cX7_ofStroke 8 = .ok (.iadd, 1) := by decide +kernel
theorem dX7_ofStroke_9 : decode cX7_ofStroke 9 = .ok (.invokevirtual 39, 3) := by decide +kernel
theorem dX7_ofStroke_12 : decode cX7_ofStroke 12 = .ok (.ireturn, 1) := by decide +kernel
theorem dX7_ofOath_0 : decode cX7_ofOath 0 = .ok (.aload_n 0, 1) := by decide +kernel
theorem dX7_ofOath_1 : decode cX7_ofOath 1 = .ok (.getfield 7, 3) := by decide +kernel
theorem dX7_ofOath_4 : decode cX7_ofOath 4 = .ok (.bipush 14, 2) := by decide +kernel
theorem dX7_ofOath_6 : decode cX7_ofOath 6 = .ok (.iconst 3, 1) := by decide +kernel
theorem dX7_ofOath_7 : decode cX7_ofOath 7 = .ok (.iload_n 1, 1) := by decide +kernel
theorem dX7_ofOath_8 : decode cX7_ofOath 8 = .ok (.imul, 1) := by decide +kernel
theorem dX7_ofOath_9 : decode cX7_ofOath 9 = .ok (.iadd, 1) := by decide +kernel
theorem dX7_ofOath_10 : decode cX7_ofOath 10 = .ok (.iload_n 2, 1) := by decide +kernel
theorem dX7_ofOath_11 : decode cX7_ofOath 11 = .ok (.iadd, 1) := by decide +kernel
theorem dX7_ofOath_12 : decode cX7_ofOath 12 = .ok (.iaload, 1) := by decide +kernel
theorem dX7_ofOath_13 : decode cX7_ofOath 13 = .ok (.ireturn, 1) := by decide +kernel
theorem dX7_save_0 : decode cX7_save 0 = .ok (.aload_n 0, 1) := by decide +kernel
theorem dX7_save_1 : decode cX7_save 1 = .ok (.getfield 43, 3) := by decide +kernel
theorem dX7_save_4 : decode cX7_save 4 = .ok (.bipush 6, 2) := by decide +kernel
theorem dX7_save_6 : decode cX7_save 6 = .ok (.if_icmp .ne 44, 3) := by decide +kernel
theorem dX7_save_9 : decode cX7_save 9 = .ok (.iconst 0, 1) := by decide +kernel
theorem dX7_save_10 : decode cX7_save 10 = .ok (.istore_n 1, 1) := by decide +kernel
theorem dX7_save_11 : decode cX7_save 11 = .ok (.iload_n 1, 1) := by decide +kernel
theorem dX7_save_12 : decode cX7_save 12 = .ok (.sipush 2170, 3) := by decide +kernel
theorem dX7_save_15 : decode cX7_save 15 = .ok (.if_icmp .ge 25, 3) := by decide +kernel
theorem dX7_save_18 : decode cX7_save 18 = .ok (.aload_n 0, 1) := by decide +kernel
theorem dX7_save_19 : decode cX7_save 19 = .ok (.getfield 16, 3) := by decide +kernel
theorem dX7_save_22 : decode cX7_save 22 = .ok (.iload_n 1, 1) := by decide +kernel
theorem dX7_save_23 : decode cX7_save 23 = .ok (.aload_n 0, 1) := by decide +kernel
theorem dX7_save_24 : decode cX7_save 24 = .ok (.getfield 16, 3) := by decide +kernel
theorem dX7_save_27 : decode cX7_save 27 = .ok (.iload_n 1, 1) := by decide +kernel
theorem dX7_save_28 : decode cX7_save 28 = .ok (.sipush 434, 3) := by decide +kernel
theorem dX7_save_31 : decode cX7_save 31 = .ok (.iadd, 1) := by decide +kernel
theorem dX7_save_32 : decode cX7_save 32 = .ok (.iaload, 1) := by decide +kernel
theorem dX7_save_33 : decode cX7_save 33 = .ok (.iastore, 1) := by decide +kernel
theorem dX7_save_34 : decode cX7_save 34 = .ok (.iinc 1 1, 3) := by decide +kernel
theorem dX7_save_37 : decode cX7_save 37 = .ok (.goto (-26), 3) := by decide +kernel
theorem dX7_save_40 : decode cX7_save 40 = .ok (.aload_n 0, 1) := by decide +kernel
theorem dX7_save_41 : decode cX7_save 41 = .ok (.dup, 1) := by decide +kernel
theorem dX7_save_42 : decode cX7_save 42 = .ok (.getfield 43, 3) := by decide +kernel
theorem dX7_save_45 : decode cX7_save 45 = .ok (.iconst 1, 1) := by decide +kernel
theorem dX7_save_46 : decode cX7_save 46 = .ok (.isub, 1) := by decide +kernel
theorem dX7_save_47 : decode cX7_save 47 = .ok (.putfield 43, 3) := by decide +kernel
theorem dX7_save_50 : decode cX7_save 50 = .ok (.iconst 0, 1) := by decide +kernel
theorem dX7_save_51 : decode cX7_save 51 = .ok (.istore_n 1, 1) := by decide +kernel
theorem dX7_save_52 : decode cX7_save 52 = .ok (.iload_n 1, 1) := by decide +kernel
theorem dX7_save_53 : decode cX7_save 53 = .ok (.sipush 434, 3) := by decide +kernel
theorem dX7_save_56 : decode cX7_save 56 = .ok (.if_icmp .ge 30, 3) := by decide +kernel
theorem dX7_save_59 : decode cX7_save 59 = .ok (.aload_n 0, 1) := by decide +kernel
theorem dX7_save_60 : decode cX7_save 60 = .ok (.getfield 16, 3) := by decide +kernel
theorem dX7_save_63 : decode cX7_save 63 = .ok (.aload_n 0, 1) := by decide +kernel
theorem dX7_save_64 : decode cX7_save 64 = .ok (.getfield 43, 3) := by decide +kernel
theorem dX7_save_67 : decode cX7_save 67 = .ok (.sipush 434, 3) := by decide +kernel
theorem dX7_save_70 : decode cX7_save 70 = .ok (.imul, 1) := by decide +kernel
theorem dX7_save_71 : decode cX7_save 71 = .ok (.iload_n 1, 1) := by decide +kernel
theorem dX7_save_72 : decode cX7_save 72 = .ok (.iadd, 1) := by decide +kernel
theorem dX7_save_73 : decode cX7_save 73 = .ok (.aload_n 0, 1) := by decide +kernel
theorem dX7_save_74 : decode cX7_save 74 = .ok (.getfield 7, 3) := by decide +kernel
theorem dX7_save_77 : decode cX7_save 77 = .ok (.iload_n 1, 1) := by decide +kernel
theorem dX7_save_78 : decode cX7_save 78 = .ok (.iaload, 1) := by decide +kernel
theorem dX7_save_79 : decode cX7_save 79 = .ok (.iastore, 1) := by decide +kernel
theorem dX7_save_80 : decode cX7_save 80 = .ok (.iinc 1 1, 3) := by decide +kernel
theorem dX7_save_83 : decode cX7_save 83 = .ok (.goto (-31), 3) := by decide +kernel
theorem dX7_save_86 : decode cX7_save 86 = .ok (.aload_n 0, 1) := by decide +kernel
theorem dX7_save_87 : decode cX7_save 87 = .ok (.dup, 1) := by decide +kernel
theorem dX7_save_88 : decode cX7_save 88 = .ok (.getfield 43, 3) := by decide +kernel
theorem dX7_save_91 : decode cX7_save 91 = .ok (.iconst 1, 1) := by decide +kernel
theorem dX7_save_92 : decode cX7_save 92 = .ok (.iadd, 1) := by decide +kernel
theorem dX7_save_93 : decode cX7_save 93 = .ok (.putfield 43, 3) := by decide +kernel
theorem dX7_save_96 : decode cX7_save 96 = .ok (.return_, 1) := by decide +kernel
theorem dX7_undo_0 : decode cX7_undo 0 = .ok (.aload_n 0, 1) := by decide +kernel
theorem dX7_undo_1 : decode cX7_undo 1 = .ok (.iconst 0, 1) := by decide +kernel
theorem dX7_undo_2 : decode cX7_undo 2 = .ok (.putfield 31, 3) := by decide +kernel
theorem dX7_undo_5 : decode cX7_undo 5 = .ok (.aload_n 0, 1) := by decide +kernel
theorem dX7_undo_6 : decode cX7_undo 6 = .ok (.getfield 43, 3) := by decide +kernel
theorem dX7_undo_9 : decode cX7_undo 9 = .ok (.ifCond .ne 9, 3) := by decide +kernel
theorem dX7_undo_12 : decode cX7_undo 12 = .ok (.aload_n 0, 1) := by decide +kernel
theorem dX7_undo_13 : decode cX7_undo 13 = .ok (.iconst 1, 1) := by decide +kernel
theorem dX7_undo_14 : decode cX7_undo 14 = .ok (.invokevirtual 46, 3) := by decide +kernel
theorem dX7_undo_17 : decode cX7_undo 17 = .ok (.ireturn, 1) := by decide +kernel
theorem dX7_undo_18 : decode cX7_undo 18 = .ok (.aload_n 0, 1) := by decide +kernel
theorem dX7_undo_19 : decode cX7_undo 19 = .ok (.dup, 1) := by decide +kernel
theorem dX7_undo_20 : decode cX7_undo 20 = .ok (.getfield 43, 3) := by decide +kernel
theorem dX7_undo_23 : decode cX7_undo 23 = .ok (.iconst 1, 1) := by decide +kernel
theorem dX7_undo_24 : decode cX7_undo 24 = .ok (.isub, 1) := by decide +kernel
theorem dX7_undo_25 : decode cX7_undo 25 = .ok (.putfield 43, 3) := by decide +kernel
theorem dX7_undo_28 : decode cX7_undo 28 = .ok (.iconst 0, 1) := by decide +kernel
theorem dX7_undo_29 : decode cX7_undo 29 = .ok (.istore_n 1, 1) := by decide +kernel
theorem dX7_undo_30 : decode cX7_undo 30 = .ok (.iload_n 1, 1) := by decide +kernel
theorem dX7_undo_31 : decode cX7_undo 31 = .ok (.sipush 434, 3) := by decide +kernel
theorem dX7_undo_34 : decode cX7_undo 34 = .ok (.if_icmp .ge 30, 3) := by decide +kernel
theorem dX7_undo_37 : decode cX7_undo 37 = .ok (.aload_n 0, 1) := by decide +kernel
theorem dX7_undo_38 : decode cX7_undo 38 = .ok (.getfield 7, 3) := by decide +kernel
theorem dX7_undo_41 : decode cX7_undo 41 = .ok (.iload_n 1, 1) := by decide +kernel
theorem dX7_undo_42 : decode cX7_undo 42 = .ok (.aload_n 0, 1) := by decide +kernel
theorem dX7_undo_43 : decode cX7_undo 43 = .ok (.getfield 16, 3) := by decide +kernel
theorem dX7_undo_46 : decode cX7_undo 46 = .ok (.aload_n 0, 1) := by decide +kernel
theorem dX7_undo_47 : decode cX7_undo 47 = .ok (.getfield 43, 3) := by decide +kernel
theorem dX7_undo_50 : decode cX7_undo 50 = .ok (.sipush 434, 3) := by decide +kernel
theorem dX7_undo_53 : decode cX7_undo 53 = .ok (.imul, 1) := by decide +kernel
theorem dX7_undo_54 : decode cX7_undo 54 = .ok (.iload_n 1, 1) := by decide +kernel
theorem dX7_undo_55 : decode cX7_undo 55 = .ok (.iadd, 1) := by decide +kernel
theorem dX7_undo_56 : decode cX7_undo 56 = .ok (.iaload, 1) := by decide +kernel
theorem dX7_undo_57 : decode cX7_undo 57 = .ok (.iastore, 1) := by decide +kernel
theorem dX7_undo_58 : decode cX7_undo 58 = .ok (.iinc 1 1, 3) := by decide +kernel
theorem dX7_undo_61 : decode cX7_undo 61 = .ok (.goto (-31), 3) := by decide +kernel
theorem dX7_undo_64 : decode cX7_undo 64 = .ok (.aload_n 0, 1) := by decide +kernel
theorem dX7_undo_65 : decode cX7_undo 65 = .ok (.getfield 43, 3) := by decide +kernel
theorem dX7_undo_68 : decode cX7_undo 68 = .ok (.ireturn, 1) := by decide +kernel
theorem dX7_keep_0 : decode cX7_keep 0 = .ok (.aload_n 0, 1) := by decide +kernel
theorem dX7_keep_1 : decode cX7_keep 1 = .ok (.iconst 0, 1) := by decide +kernel
theorem dX7_keep_2 : decode cX7_keep 2 = .ok (.putfield 31, 3) := by decide +kernel
theorem dX7_keep_5 : decode cX7_keep 5 = .ok (.iconst 0, 1) := by decide +kernel
theorem dX7_keep_6 : decode cX7_keep 6 = .ok (.istore_n 1, 1) := by decide +kernel
theorem dX7_keep_7 : decode cX7_keep 7 = .ok (.iload_n 1, 1) := by decide +kernel
theorem dX7_keep_8 : decode cX7_keep 8 = .ok (.sipush 434, 3) := by decide +kernel
theorem dX7_keep_11 : decode cX7_keep 11 = .ok (.if_icmp .ge 21, 3) := by decide +kernel
theorem dX7_keep_14 : decode cX7_keep 14 = .ok (.aload_n 0, 1) := by decide +kernel
theorem dX7_keep_15 : decode cX7_keep 15 = .ok (.getfield 19, 3) := by decide +kernel
theorem dX7_keep_18 : decode cX7_keep 18 = .ok (.iload_n 1, 1) := by decide +kernel
theorem dX7_keep_19 : decode cX7_keep 19 = .ok (.aload_n 0, 1) := by decide +kernel
theorem dX7_keep_20 : decode cX7_keep 20 = .ok (.getfield 7, 3) := by decide +kernel
theorem dX7_keep_23 : decode cX7_keep 23 = .ok (.iload_n 1, 1) := by decide +kernel
theorem dX7_keep_24 : decode cX7_keep 24 = .ok (.iaload, 1) := by decide +kernel
theorem dX7_keep_25 : decode cX7_keep 25 = .ok (.iastore, 1) := by decide +kernel
theorem dX7_keep_26 : decode cX7_keep 26 = .ok (.iinc 1 1, 3) := by decide +kernel
theorem dX7_keep_29 : decode cX7_keep 29 = .ok (.goto (-22), 3) := by decide +kernel
theorem dX7_keep_32 : decode cX7_keep 32 = .ok (.aload_n 0, 1) := by decide +kernel
theorem dX7_keep_33 : decode cX7_keep 33 = .ok (.iconst 1, 1) := by decide +kernel
theorem dX7_keep_34 : decode cX7_keep 34 = .ok (.putfield 50, 3) := by decide +kernel
theorem dX7_keep_37 : decode cX7_keep 37 = .ok (.aload_n 0, 1) := by decide +kernel
theorem dX7_keep_38 : decode cX7_keep 38 = .ok (.getfield 7, 3) := by decide +kernel
theorem dX7_keep_41 : decode cX7_keep 41 = .ok (.bipush 9, 2) := by decide +kernel
theorem dX7_keep_43 : decode cX7_keep 43 = .ok (.iaload, 1) := by decide +kernel
theorem dX7_keep_44 : decode cX7_keep 44 = .ok (.ireturn, 1) := by decide +kernel
theorem dX7_restore_0 : decode cX7_restore 0 = .ok (.aload_n 0, 1) := by decide +kernel
theorem dX7_restore_1 : decode cX7_restore 1 = .ok (.iconst 0, 1) := by decide +kernel
theorem dX7_restore_2 : decode cX7_restore 2 = .ok (.putfield 31, 3) := by decide +kernel
theorem dX7_restore_5 : decode cX7_restore 5 = .ok (.aload_n 0, 1) := by decide +kernel
theorem dX7_restore_6 : decode cX7_restore 6 = .ok (.getfield 50, 3) := by decide +kernel
theorem dX7_restore_9 : decode cX7_restore 9 = .ok (.ifCond .ne 9, 3) := by decide +kernel
theorem dX7_restore_12 : decode cX7_restore 12 = .ok (.aload_n 0, 1) := by decide +kernel
theorem dX7_restore_13 : decode cX7_restore 13 = .ok (.iconst 1, 1) := by decide +kernel
theorem dX7_restore_14 : decode cX7_restore 14 = .ok (.invokevirtual 46, 3) := by decide +kernel
theorem dX7_restore_17 : decode cX7_restore 17 = .ok (.ireturn, 1) := by decide +kernel
theorem dX7_restore_18 : decode cX7_restore 18 = .ok (.aload_n 0, 1) := by decide +kernel
theorem dX7_restore_19 : decode cX7_restore 19 = .ok (.invokevirtual 54, 3) := by decide +kernel
theorem dX7_restore_22 : decode cX7_restore 22 = .ok (.iconst 0, 1) := by decide +kernel
theorem dX7_restore_23 : decode cX7_restore 23 = .ok (.istore_n 1, 1) := by decide +kernel
theorem dX7_restore_24 : decode cX7_restore 24 = .ok (.iload_n 1, 1) := by decide +kernel
theorem dX7_restore_25 : decode cX7_restore 25 = .ok (.sipush 434, 3) := by decide +kernel
theorem dX7_restore_28 : decode cX7_restore 28 = .ok (.if_icmp .ge 21, 3) := by decide +kernel
theorem dX7_restore_31 : decode cX7_restore 31 = .ok (.aload_n 0, 1) := by decide +kernel
theorem dX7_restore_32 : decode cX7_restore 32 = .ok (.getfield 7, 3) := by decide +kernel
theorem dX7_restore_35 : decode cX7_restore 35 = .ok (.iload_n 1, 1) := by decide +kernel
theorem dX7_restore_36 : decode cX7_restore 36 = .ok (.aload_n 0, 1) := by decide +kernel
theorem dX7_restore_37 : decode cX7_restore 37 = .ok (.getfield 19, 3) := by decide +kernel
theorem dX7_restore_40 : decode cX7_restore 40 = .ok (.iload_n 1, 1) := by decide +kernel
theorem dX7_restore_41 : decode cX7_restore 41 = .ok (.iaload, 1) := by decide +kernel
theorem dX7_restore_42 : decode cX7_restore 42 = .ok (.iastore, 1) := by decide +kernel
theorem dX7_restore_43 : decode cX7_restore 43 = .ok (.iinc 1 1, 3) := by decide +kernel
theorem dX7_restore_46 : decode cX7_restore 46 = .ok (.goto (-22), 3) := by decide +kernel
theorem dX7_restore_49 : decode cX7_restore 49 = .ok (.aload_n 0, 1) := by decide +kernel
theorem dX7_restore_50 : decode cX7_restore 50 = .ok (.getfield 7, 3) := by decide +kernel
theorem dX7_restore_53 : decode cX7_restore 53 = .ok (.bipush 9, 2) := by decide +kernel
theorem dX7_restore_55 : decode cX7_restore 55 = .ok (.iaload, 1) := by decide +kernel
theorem dX7_restore_56 : decode cX7_restore 56 = .ok (.ireturn, 1) := by decide +kernel
theorem dX7_putAside_0 : decode cX7_putAside 0 = .ok (.iconst 0, 1) := by decide +kernel
theorem dX7_putAside_1 : decode cX7_putAside 1 = .ok (.istore_n 1, 1) := by decide +kernel
theorem dX7_putAside_2 : decode cX7_putAside 2 = .ok (.iload_n 1, 1) := by decide +kernel
theorem dX7_putAside_3 : decode cX7_putAside 3 = .ok (.sipush 434, 3) := by decide +kernel
theorem dX7_putAside_6 : decode cX7_putAside 6 = .ok (.if_icmp .ge 21, 3) := by decide +kernel
theorem dX7_putAside_9 : decode cX7_putAside 9 = .ok (.aload_n 0, 1) := by decide +kernel
theorem dX7_putAside_10 : decode cX7_putAside 10 = .ok (.getfield 13, 3) := by decide +kernel
theorem dX7_putAside_13 : decode cX7_putAside 13 = .ok (.iload_n 1, 1) := by decide +kernel
theorem dX7_putAside_14 : decode cX7_putAside 14 = .ok (.aload_n 0, 1) := by decide +kernel
theorem dX7_putAside_15 : decode cX7_putAside 15 = .ok (.getfield 7, 3) := by decide +kernel
theorem dX7_putAside_18 : decode cX7_putAside 18 = .ok (.iload_n 1, 1) := by decide +kernel
theorem dX7_putAside_19 : decode cX7_putAside 19 = .ok (.iaload, 1) := by decide +kernel
theorem dX7_putAside_20 : decode cX7_putAside 20 = .ok (.iastore, 1) := by decide +kernel
theorem dX7_putAside_21 : decode cX7_putAside 21 = .ok (.iinc 1 1, 3) := by decide +kernel
theorem dX7_putAside_24 : decode cX7_putAside 24 = .ok (.goto (-22), 3) := by decide +kernel
theorem dX7_putAside_27 : decode cX7_putAside 27 = .ok (.return_, 1) := by decide +kernel
theorem dX7_takeBack_0 : decode cX7_takeBack 0 = .ok (.iconst 0, 1) := by decide +kernel
theorem dX7_takeBack_1 : decode cX7_takeBack 1 = .ok (.istore_n 1, 1) := by decide +kernel
theorem dX7_takeBack_2 : decode cX7_takeBack 2 = .ok (.iload_n 1, 1) := by decide +kernel
theorem dX7_takeBack_3 : decode cX7_takeBack 3 = .ok (.sipush 434, 3) := by decide +kernel
theorem dX7_takeBack_6 : decode cX7_takeBack 6 = .ok (.if_icmp .ge 21, 3) := by decide +kernel
theorem dX7_takeBack_9 : decode cX7_takeBack 9 = .ok (.aload_n 0, 1) := by decide +kernel
theorem dX7_takeBack_10 : decode cX7_takeBack 10 = .ok (.getfield 7, 3) := by decide +kernel
theorem dX7_takeBack_13 : decode cX7_takeBack 13 = .ok (.iload_n 1, 1) := by decide +kernel
theorem dX7_takeBack_14 : decode cX7_takeBack 14 = .ok (.aload_n 0, 1) := by decide +kernel
theorem dX7_takeBack_15 : decode cX7_takeBack 15 = .ok (.getfield 13, 3) := by decide +kernel
theorem dX7_takeBack_18 : decode cX7_takeBack 18 = .ok (.iload_n 1, 1) := by decide +kernel
theorem dX7_takeBack_19 : decode cX7_takeBack 19 = .ok (.iaload, 1) := by decide +kernel
theorem dX7_takeBack_20 : decode cX7_takeBack 20 = .ok (.iastore, 1) := by decide +kernel
theorem dX7_takeBack_21 : decode cX7_takeBack 21 = .ok (.iinc 1 1, 3) := by decide +kernel
theorem dX7_takeBack_24 : decode cX7_takeBack 24 = .ok (.goto (-22), 3) := by decide +kernel
theorem dX7_takeBack_27 : decode cX7_takeBack 27 = .ok (.return_, 1) := by decide +kernel
theorem dX7_divided_0 : decode cX7_divided 0 = .ok (.iload_n 0, 1) := by decide +kernel
theorem dX7_divided_1 : decode cX7_divided 1 = .ok (.ifCond .lt 9, 3) := by decide +kernel
theorem dX7_divided_4 : decode cX7_divided 4 = .ok (.iload_n 0, 1) := by decide +kernel
theorem dX7_divided_5 : decode cX7_divided 5 = .ok (.iload_n 1, 1) := by decide +kernel
theorem dX7_divided_6 : decode cX7_divided 6 = .ok (.idiv, 1) := by decide +kernel
theorem dX7_divided_7 : decode cX7_divided 7 = .ok (.goto 12, 3) := by decide +kernel
theorem dX7_divided_10 : decode cX7_divided 10 = .ok (.iload_n 0, 1) := by decide +kernel
theorem dX7_divided_11 : decode cX7_divided 11 = .ok (.ineg, 1) := by decide +kernel
theorem dX7_divided_12 : decode cX7_divided 12 = .ok (.iload_n 1, 1) := by decide +kernel
theorem dX7_divided_13 : decode cX7_divided 13 = .ok (.iadd, 1) := by decide +kernel
theorem dX7_divided_14 : decode cX7_divided 14 = .ok (.iconst 1, 1) := by decide +kernel
theorem dX7_divided_15 : decode cX7_divided 15 = .ok (.isub, 1) := by decide +kernel
theorem dX7_divided_16 : decode cX7_divided 16 = .ok (.iload_n 1, 1) := by decide +kernel
theorem dX7_divided_17 : decode cX7_divided 17 = .ok (.idiv, 1) := by decide +kernel
theorem dX7_divided_18 : decode cX7_divided 18 = .ok (.ineg, 1) := by decide +kernel
theorem dX7_divided_19 : decode cX7_divided 19 = .ok (.ireturn, 1) := by decide +kernel
theorem dX7_sumOf_0 : decode cX7_sumOf 0 = .ok (.iconst 0, 1) := by decide +kernel
theorem dX7_sumOf_1 : decode cX7_sumOf 1 = .ok (.istore_n 3, 1) := by decide +kernel
theorem dX7_sumOf_2 : decode cX7_sumOf 2 = .ok (.iconst 0, 1) := by decide +kernel
theorem dX7_sumOf_3 : decode cX7_sumOf 3 = .ok (.istore 4, 2) := by decide +kernel
theorem dX7_sumOf_5 : decode cX7_sumOf 5 = .ok (.iload 4, 2) := by decide +kernel
theorem dX7_sumOf_7 : decode cX7_sumOf 7 = .ok (.aload_n 0, 1) := by decide +kernel
theorem dX7_sumOf_8 : decode cX7_sumOf 8 = .ok (.iload_n 1, 1) := by decide +kernel
theorem dX7_sumOf_9 : decode cX7_sumOf 9 = .ok (.iconst 1, 1) := by decide +kernel
theorem dX7_sumOf_10 : decode cX7_sumOf 10 = .ok (.invokevirtual 39, 3) := by decide +kernel
theorem dX7_sumOf_13 : decode cX7_sumOf 13 = .ok (.if_icmp .ge 20, 3) := by decide +kernel
theorem dX7_sumOf_16 : decode cX7_sumOf 16 = .ok (.iload_n 3, 1) := by decide +kernel
theorem dX7_sumOf_17 : decode cX7_sumOf 17 = .ok (.aload_n 0, 1) := by decide +kernel
theorem dX7_sumOf_18 : decode cX7_sumOf 18 = .ok (.iload_n 1, 1) := by decide +kernel
theorem dX7_sumOf_19 : decode cX7_sumOf 19 = .ok (.iload 4, 2) := by decide +kernel
theorem dX7_sumOf_21 : decode cX7_sumOf 21 = .ok (.iload_n 2, 1) := by decide +kernel
theorem dX7_sumOf_22 : decode cX7_sumOf 22 = .ok (.invokevirtual 57, 3) := by decide +kernel
theorem dX7_sumOf_25 : decode cX7_sumOf 25 = .ok (.iadd, 1) := by decide +kernel
theorem dX7_sumOf_26 : decode cX7_sumOf 26 = .ok (.istore_n 3, 1) := by decide +kernel
theorem dX7_sumOf_27 : decode cX7_sumOf 27 = .ok (.iinc 4 1, 3) := by decide +kernel
theorem dX7_sumOf_30 : decode cX7_sumOf 30 = .ok (.goto (-25), 3) := by decide +kernel
theorem dX7_sumOf_33 : decode cX7_sumOf 33 = .ok (.iload_n 3, 1) := by decide +kernel
theorem dX7_sumOf_34 : decode cX7_sumOf 34 = .ok (.ireturn, 1) := by decide +kernel
theorem dX7_spread_0 : decode cX7_spread 0 = .ok (.aload_n 0, 1) := by decide +kernel
theorem dX7_spread_1 : decode cX7_spread 1 = .ok (.iload_n 1, 1) := by decide +kernel
theorem dX7_spread_2 : decode cX7_spread 2 = .ok (.iconst 0, 1) := by decide +kernel
theorem dX7_spread_3 : decode cX7_spread 3 = .ok (.iconst 0, 1) := by decide +kernel
theorem dX7_spread_4 : decode cX7_spread 4 = .ok (.invokevirtual 57, 3) := by decide +kernel
theorem dX7_spread_7 : decode cX7_spread 7 = .ok (.istore_n 2, 1) := by decide +kernel
theorem dX7_spread_8 : decode cX7_spread 8 = .ok (.iload_n 2, 1) := by decide +kernel
theorem dX7_spread_9 : decode cX7_spread 9 = .ok (.istore_n 3, 1) := by decide +kernel
theorem dX7_spread_10 : decode cX7_spread 10 = .ok (.iconst 1, 1) := by decide +kernel
theorem dX7_spread_11 : decode cX7_spread 11 = .ok (.istore 4, 2) := by decide +kernel
theorem dX7_spread_13 : decode cX7_spread 13 = .ok (.iload 4, 2) := by decide +kernel
theorem dX7_spread_15 : decode cX7_spread 15 = .ok (.aload_n 0, 1) := by decide +kernel
theorem dX7_spread_16 : decode cX7_spread 16 = .ok (.iload_n 1, 1) := by decide +kernel
theorem dX7_spread_17 : decode cX7_spread 17 = .ok (.iconst 1, 1) := by decide +kernel
theorem dX7_spread_18 : decode cX7_spread 18 = .ok (.invokevirtual 39, 3) := by decide +kernel
theorem dX7_spread_21 : decode cX7_spread 21 = .ok (.if_icmp .ge 45, 3) := by decide +kernel
theorem dX7_spread_24 : decode cX7_spread 24 = .ok (.aload_n 0, 1) := by decide +kernel
theorem dX7_spread_25 : decode cX7_spread 25 = .ok (.iload_n 1, 1) := by decide +kernel
theorem dX7_spread_26 : decode cX7_spread 26 = .ok (.iload 4, 2) := by decide +kernel
theorem dX7_spread_28 : decode cX7_spread 28 = .ok (.iconst 0, 1) := by decide +kernel
theorem dX7_spread_29 : decode cX7_spread 29 = .ok (.invokevirtual 57, 3) := by decide +kernel
theorem dX7_spread_32 : decode cX7_spread 32 = .ok (.istore 5, 2) := by decide +kernel
theorem dX7_spread_34 : decode cX7_spread 34 = .ok (.iload 5, 2) := by decide +kernel
theorem dX7_spread_36 : decode cX7_spread 36 = .ok (.iload_n 2, 1) := by decide +kernel
theorem dX7_spread_37 : decode cX7_spread 37 = .ok (.if_icmp .ge 8, 3) := by decide +kernel
theorem dX7_spread_40 : decode cX7_spread 40 = .ok (.iload 5, 2) := by decide +kernel
theorem dX7_spread_42 : decode cX7_spread 42 = .ok (.goto 4, 3) := by decide +kernel
theorem dX7_spread_45 : decode cX7_spread 45 = .ok (.iload_n 2, 1) := by decide +kernel
theorem dX7_spread_46 : decode cX7_spread 46 = .ok (.istore_n 2, 1) := by decide +kernel
theorem dX7_spread_47 : decode cX7_spread 47 = .ok (.iload 5, 2) := by decide +kernel
theorem dX7_spread_49 : decode cX7_spread 49 = .ok (.iload_n 3, 1) := by decide +kernel
theorem dX7_spread_50 : decode cX7_spread 50 = .ok (.if_icmp .le 8, 3) := by decide +kernel
theorem dX7_spread_53 : decode cX7_spread 53 = .ok (.iload 5, 2) := by decide +kernel
theorem dX7_spread_55 : decode cX7_spread 55 = .ok (.goto 4, 3) := by decide +kernel
theorem dX7_spread_58 : decode cX7_spread 58 = .ok (.iload_n 3, 1) := by decide +kernel
theorem dX7_spread_59 : decode cX7_spread 59 = .ok (.istore_n 3, 1) := by decide +kernel
theorem dX7_spread_60 : decode cX7_spread 60 = .ok (.iinc 4 1, 3) := by decide +kernel
theorem dX7_spread_63 : decode cX7_spread 63 = .ok (.goto (-50), 3) := by decide +kernel
theorem dX7_spread_66 : decode cX7_spread 66 = .ok (.iload_n 3, 1) := by decide +kernel
theorem dX7_spread_67 : decode cX7_spread 67 = .ok (.iload_n 2, 1) := by decide +kernel
theorem dX7_spread_68 : decode cX7_spread 68 = .ok (.isub, 1) := by decide +kernel
theorem dX7_spread_69 : decode cX7_spread 69 = .ok (.ireturn, 1) := by decide +kernel
theorem dX7_loopHeight_0 : decode cX7_loopHeight 0 = .ok (.aload_n 0, 1) := by decide +kernel
theorem dX7_loopHeight_1 : decode cX7_loopHeight 1 = .ok (.iload_n 1, 1) := by decide +kernel
theorem dX7_loopHeight_2 : decode cX7_loopHeight 2 = .ok (.iconst 2, 1) := by decide +kernel
theorem dX7_loopHeight_3 : decode cX7_loopHeight 3 = .ok (.invokevirtual 61, 3) := by decide +kernel
theorem dX7_loopHeight_6 : decode cX7_loopHeight 6 = .ok (.istore_n 2, 1) := by decide +kernel
theorem dX7_loopHeight_7 : decode cX7_loopHeight 7 = .ok (.iload_n 2, 1) := by decide +kernel
theorem dX7_loopHeight_8 : decode cX7_loopHeight 8 = .ok (.ifCond .ne 5, 3) := by decide +kernel
theorem dX7_loopHeight_11 : decode cX7_loopHeight 11 = .ok (.iconst 0, 1) := by decide +kernel
theorem dX7_loopHeight_12 : decode cX7_loopHeight 12 = .ok (.ireturn, 1) := by decide +kernel
theorem dX7_loopHeight_13 : decode cX7_loopHeight 13 = .ok (.iconst 0, 1) := by decide +kernel
theorem dX7_loopHeight_14 : decode cX7_loopHeight 14 = .ok (.istore_n 3, 1) := by decide +kernel
theorem dX7_loopHeight_15 : decode cX7_loopHeight 15 = .ok (.iconst 0, 1) := by decide +kernel
theorem dX7_loopHeight_16 : decode cX7_loopHeight 16 = .ok (.istore 4, 2) := by decide +kernel
theorem dX7_loopHeight_18 : decode cX7_loopHeight 18 = .ok (.iload 4, 2) := by decide +kernel
theorem dX7_loopHeight_20 : decode cX7_loopHeight 20 = .ok (.aload_n 0, 1) := by decide +kernel
theorem dX7_loopHeight_21 : decode cX7_loopHeight 21 = .ok (.iload_n 1, 1) := by decide +kernel
theorem dX7_loopHeight_22 : decode cX7_loopHeight 22 = .ok (.iconst 1, 1) := by decide +kernel
theorem dX7_loopHeight_23 : decode cX7_loopHeight 23 = .ok (.invokevirtual 39, 3) := by decide +kernel
theorem dX7_loopHeight_26 : decode cX7_loopHeight 26 = .ok (.if_icmp .ge 29, 3) := by decide +kernel
theorem dX7_loopHeight_29 : decode cX7_loopHeight 29 = .ok (.iload_n 3, 1) := by decide +kernel
theorem dX7_loopHeight_30 : decode cX7_loopHeight 30 = .ok (.aload_n 0, 1) := by decide +kernel
theorem dX7_loopHeight_31 : decode cX7_loopHeight 31 = .ok (.iload_n 1, 1) := by decide +kernel
theorem dX7_loopHeight_32 : decode cX7_loopHeight 32 = .ok (.iload 4, 2) := by decide +kernel
theorem dX7_loopHeight_34 : decode cX7_loopHeight 34 = .ok (.iconst 2, 1) := by decide +kernel
theorem dX7_loopHeight_35 : decode cX7_loopHeight 35 = .ok (.invokevirtual 57, 3) := by decide +kernel
theorem dX7_loopHeight_38 : decode cX7_loopHeight 38 = .ok (.aload_n 0, 1) := by decide +kernel
theorem dX7_loopHeight_39 : decode cX7_loopHeight 39 = .ok (.iload_n 1, 1) := by decide +kernel
theorem dX7_loopHeight_40 : decode cX7_loopHeight 40 = .ok (.iload 4, 2) := by decide +kernel
theorem dX7_loopHeight_42 : decode cX7_loopHeight 42 = .ok (.iconst 1, 1) := by decide +kernel
theorem dX7_loopHeight_43 : decode cX7_loopHeight 43 = .ok (.invokevirtual 57, 3) := by decide +kernel
theorem dX7_loopHeight_46 : decode cX7_loopHeight 46 = .ok (.imul, 1) := by decide +kernel
theorem dX7_loopHeight_47 : decode cX7_loopHeight 47 = .ok (.iadd, 1) := by decide +kernel
theorem dX7_loopHeight_48 : decode cX7_loopHeight 48 = .ok (.istore_n 3, 1) := by decide +kernel
theorem dX7_loopHeight_49 : decode cX7_loopHeight 49 = .ok (.iinc 4 1, 3) := by decide +kernel
theorem dX7_loopHeight_52 : decode cX7_loopHeight 52 = .ok (.goto (-34), 3) := by decide +kernel
theorem dX7_loopHeight_55 : decode cX7_loopHeight 55 = .ok (.iload_n 3, 1) := by decide +kernel
theorem dX7_loopHeight_56 : decode cX7_loopHeight 56 = .ok (.iload_n 2, 1) := by decide +kernel
theorem dX7_loopHeight_57 : decode cX7_loopHeight 57 = .ok (.idiv, 1) := by decide +kernel
theorem dX7_loopHeight_58 : decode cX7_loopHeight 58 = .ok (.bipush 10, 2) := by decide +kernel
theorem dX7_loopHeight_60 : decode cX7_loopHeight 60 = .ok (.imul, 1) := by decide +kernel
theorem dX7_loopHeight_61 : decode cX7_loopHeight 61 = .ok (.aload_n 0, 1) := by decide +kernel
theorem dX7_loopHeight_62 : decode cX7_loopHeight 62 = .ok (.iload_n 1, 1) := by decide +kernel
theorem dX7_loopHeight_63 : decode cX7_loopHeight 63 = .ok (.iconst 1, 1) := by decide +kernel
theorem dX7_loopHeight_64 : decode cX7_loopHeight 64 = .ok (.invokevirtual 61, 3) := by decide +kernel
theorem dX7_loopHeight_67 : decode cX7_loopHeight 67 = .ok (.aload_n 0, 1) := by decide +kernel
theorem dX7_loopHeight_68 : decode cX7_loopHeight 68 = .ok (.iload_n 1, 1) := by decide +kernel
theorem dX7_loopHeight_69 : decode cX7_loopHeight 69 = .ok (.iconst 1, 1) := by decide +kernel
theorem dX7_loopHeight_70 : decode cX7_loopHeight 70 = .ok (.invokevirtual 39, 3) := by decide +kernel
theorem dX7_loopHeight_73 : decode cX7_loopHeight 73 = .ok (.idiv, 1) := by decide +kernel
theorem dX7_loopHeight_74 : decode cX7_loopHeight 74 = .ok (.idiv, 1) := by decide +kernel
theorem dX7_loopHeight_75 : decode cX7_loopHeight 75 = .ok (.ireturn, 1) := by decide +kernel
theorem dX7_unrest_0 : decode cX7_unrest 0 = .ok (.aload_n 0, 1) := by decide +kernel
theorem dX7_unrest_1 : decode cX7_unrest 1 = .ok (.iload_n 1, 1) := by decide +kernel
theorem dX7_unrest_2 : decode cX7_unrest 2 = .ok (.iconst 1, 1) := by decide +kernel
theorem dX7_unrest_3 : decode cX7_unrest 3 = .ok (.invokevirtual 39, 3) := by decide +kernel
theorem dX7_unrest_6 : decode cX7_unrest 6 = .ok (.istore_n 2, 1) := by decide +kernel
theorem dX7_unrest_7 : decode cX7_unrest 7 = .ok (.iconst 0, 1) := by decide +kernel
theorem dX7_unrest_8 : decode cX7_unrest 8 = .ok (.istore_n 3, 1) := by decide +kernel
theorem dX7_unrest_9 : decode cX7_unrest 9 = .ok (.iconst 1, 1) := by decide +kernel
theorem dX7_unrest_10 : decode cX7_unrest 10 = .ok (.istore 4, 2) := by decide +kernel
theorem dX7_unrest_12 : decode cX7_unrest 12 = .ok (.iload 4, 2) := by decide +kernel
theorem dX7_unrest_14 : decode cX7_unrest 14 = .ok (.iload_n 2, 1) := by decide +kernel
theorem dX7_unrest_15 : decode cX7_unrest 15 = .ok (.if_icmp .ge 34, 3) := by decide +kernel
theorem dX7_unrest_18 : decode cX7_unrest 18 = .ok (.iload_n 3, 1) := by decide +kernel
theorem dX7_unrest_19 : decode cX7_unrest 19 = .ok (.aload_n 0, 1) := by decide +kernel
theorem dX7_unrest_20 : decode cX7_unrest 20 = .ok (.iload_n 1, 1) := by decide +kernel
theorem dX7_unrest_21 : decode cX7_unrest 21 = .ok (.iload 4, 2) := by decide +kernel
theorem dX7_unrest_23 : decode cX7_unrest 23 = .ok (.iconst 3, 1) := by decide +kernel
theorem dX7_unrest_24 : decode cX7_unrest 24 = .ok (.invokevirtual 57, 3) := by decide +kernel
theorem dX7_unrest_27 : decode cX7_unrest 27 = .ok (.aload_n 0, 1) := by decide +kernel
theorem dX7_unrest_28 : decode cX7_unrest 28 = .ok (.iload_n 1, 1) := by decide +kernel
theorem dX7_unrest_29 : decode cX7_unrest 29 = .ok (.iload 4, 2) := by decide +kernel
theorem dX7_unrest_31 : decode cX7_unrest 31 = .ok (.iconst 1, 1) := by decide +kernel
theorem dX7_unrest_32 : decode cX7_unrest 32 = .ok (.isub, 1) := by decide +kernel
theorem dX7_unrest_33 : decode cX7_unrest 33 = .ok (.iconst 3, 1) := by decide +kernel
theorem dX7_unrest_34 : decode cX7_unrest 34 = .ok (.invokevirtual 57, 3) := by decide +kernel
theorem dX7_unrest_37 : decode cX7_unrest 37 = .ok (.isub, 1) := by decide +kernel
theorem dX7_unrest_38 : decode cX7_unrest 38 = .ok (.invokestatic 64, 3) := by decide +kernel
theorem dX7_unrest_41 : decode cX7_unrest 41 = .ok (.iadd, 1) := by decide +kernel
theorem dX7_unrest_42 : decode cX7_unrest 42 = .ok (.istore_n 3, 1) := by decide +kernel
theorem dX7_unrest_43 : decode cX7_unrest 43 = .ok (.iinc 4 1, 3) := by decide +kernel
theorem dX7_unrest_46 : decode cX7_unrest 46 = .ok (.goto (-34), 3) := by decide +kernel
theorem dX7_unrest_49 : decode cX7_unrest 49 = .ok (.iload_n 2, 1) := by decide +kernel
theorem dX7_unrest_50 : decode cX7_unrest 50 = .ok (.iconst 1, 1) := by decide +kernel
theorem dX7_unrest_51 : decode cX7_unrest 51 = .ok (.if_icmp .ne 7, 3) := by decide +kernel
theorem dX7_unrest_54 : decode cX7_unrest 54 = .ok (.iconst 0, 1) := by decide +kernel
theorem dX7_unrest_55 : decode cX7_unrest 55 = .ok (.goto 11, 3) := by decide +kernel
theorem dX7_unrest_58 : decode cX7_unrest 58 = .ok (.iload_n 3, 1) := by decide +kernel
theorem dX7_unrest_59 : decode cX7_unrest 59 = .ok (.bipush 10, 2) := by decide +kernel
theorem dX7_unrest_61 : decode cX7_unrest 61 = .ok (.imul, 1) := by decide +kernel
theorem dX7_unrest_62 : decode cX7_unrest 62 = .ok (.iload_n 2, 1) := by decide +kernel
theorem dX7_unrest_63 : decode cX7_unrest 63 = .ok (.iconst 1, 1) := by decide +kernel
theorem dX7_unrest_64 : decode cX7_unrest 64 = .ok (.isub, 1) := by decide +kernel
theorem dX7_unrest_65 : decode cX7_unrest 65 = .ok (.idiv, 1) := by decide +kernel
theorem dX7_unrest_66 : decode cX7_unrest 66 = .ok (.ireturn, 1) := by decide +kernel
theorem dX7_markOf_0 : decode cX7_markOf 0 = .ok (.iload_n 2, 1) := by decide +kernel
theorem dX7_markOf_1 : decode cX7_markOf 1 = .ok (.tableswitch 97 0 4 #[35, 51, 57, 63, 80], 35) := by decide +kernel
theorem dX7_markOf_36 : decode cX7_markOf 36 = .ok (.aload_n 0, 1) := by decide +kernel
theorem dX7_markOf_37 : decode cX7_markOf 37 = .ok (.iload_n 1, 1) := by decide +kernel
theorem dX7_markOf_38 : decode cX7_markOf 38 = .ok (.iconst 0, 1) := by decide +kernel
theorem dX7_markOf_39 : decode cX7_markOf 39 = .ok (.invokevirtual 61, 3) := by decide +kernel
theorem dX7_markOf_42 : decode cX7_markOf 42 = .ok (.aload_n 0, 1) := by decide +kernel
theorem dX7_markOf_43 : decode cX7_markOf 43 = .ok (.iload_n 1, 1) := by decide +kernel
theorem dX7_markOf_44 : decode cX7_markOf 44 = .ok (.iconst 1, 1) := by decide +kernel
theorem dX7_markOf_45 : decode cX7_markOf 45 = .ok (.invokevirtual 39, 3) := by decide +kernel
theorem dX7_markOf_48 : decode cX7_markOf 48 = .ok (.invokestatic 67, 3) := by decide +kernel
theorem dX7_markOf_51 : decode cX7_markOf 51 = .ok (.ireturn, 1) := by decide +kernel
theorem dX7_markOf_52 : decode cX7_markOf 52 = .ok (.aload_n 0, 1) := by decide +kernel
theorem dX7_markOf_53 : decode cX7_markOf 53 = .ok (.iload_n 1, 1) := by decide +kernel
theorem dX7_markOf_54 : decode cX7_markOf 54 = .ok (.invokevirtual 70, 3) := by decide +kernel
theorem dX7_markOf_57 : decode cX7_markOf 57 = .ok (.ireturn, 1) := by decide +kernel
theorem dX7_markOf_58 : decode cX7_markOf 58 = .ok (.aload_n 0, 1) := by decide +kernel
theorem dX7_markOf_59 : decode cX7_markOf 59 = .ok (.iload_n 1, 1) := by decide +kernel
theorem dX7_markOf_60 : decode cX7_markOf 60 = .ok (.invokevirtual 73, 3) := by decide +kernel
theorem dX7_markOf_63 : decode cX7_markOf 63 = .ok (.ireturn, 1) := by decide +kernel
theorem dX7_markOf_64 : decode cX7_markOf 64 = .ok (.bipush 100, 2) := by decide +kernel
theorem dX7_markOf_66 : decode cX7_markOf 66 = .ok (.aload_n 0, 1) := by decide +kernel
theorem dX7_markOf_67 : decode cX7_markOf 67 = .ok (.iload_n 1, 1) := by decide +kernel
theorem dX7_markOf_68 : decode cX7_markOf 68 = .ok (.iconst 2, 1) := by decide +kernel
theorem dX7_markOf_69 : decode cX7_markOf 69 = .ok (.invokevirtual 61, 3) := by decide +kernel
theorem dX7_markOf_72 : decode cX7_markOf 72 = .ok (.imul, 1) := by decide +kernel
theorem dX7_markOf_73 : decode cX7_markOf 73 = .ok (.aload_n 0, 1) := by decide +kernel
theorem dX7_markOf_74 : decode cX7_markOf 74 = .ok (.iload_n 1, 1) := by decide +kernel
theorem dX7_markOf_75 : decode cX7_markOf 75 = .ok (.iconst 1, 1) := by decide +kernel
theorem dX7_markOf_76 : decode cX7_markOf 76 = .ok (.invokevirtual 39, 3) := by decide +kernel
theorem dX7_markOf_79 : decode cX7_markOf 79 = .ok (.idiv, 1) := by decide +kernel
theorem dX7_markOf_80 : decode cX7_markOf 80 = .ok (.ireturn, 1) := by decide +kernel
theorem dX7_markOf_81 : decode cX7_markOf 81 = .ok (.bipush 10, 2) := by decide +kernel
theorem dX7_markOf_83 : decode cX7_markOf 83 = .ok (.aload_n 0, 1) := by decide +kernel
theorem dX7_markOf_84 : decode cX7_markOf 84 = .ok (.iload_n 1, 1) := by decide +kernel
theorem dX7_markOf_85 : decode cX7_markOf 85 = .ok (.iconst 3, 1) := by decide +kernel
theorem dX7_markOf_86 : decode cX7_markOf 86 = .ok (.invokevirtual 61, 3) := by decide +kernel
theorem dX7_markOf_89 : decode cX7_markOf 89 = .ok (.imul, 1) := by decide +kernel
theorem dX7_markOf_90 : decode cX7_markOf 90 = .ok (.aload_n 0, 1) := by decide +kernel
theorem dX7_markOf_91 : decode cX7_markOf 91 = .ok (.iload_n 1, 1) := by decide +kernel
theorem dX7_markOf_92 : decode cX7_markOf 92 = .ok (.iconst 1, 1) := by decide +kernel
theorem dX7_markOf_93 : decode cX7_markOf 93 = .ok (.invokevirtual 39, 3) := by decide +kernel
theorem dX7_markOf_96 : decode cX7_markOf 96 = .ok (.idiv, 1) := by decide +kernel
theorem dX7_markOf_97 : decode cX7_markOf 97 = .ok (.ireturn, 1) := by decide +kernel
theorem dX7_markOf_98 : decode cX7_markOf 98 = .ok (.aload_n 0, 1) := by decide +kernel
theorem dX7_markOf_99 : decode cX7_markOf 99 = .ok (.iload_n 1, 1) := by decide +kernel
theorem dX7_markOf_100 : decode cX7_markOf 100 = .ok (.invokevirtual 76, 3) := by decide +kernel
theorem dX7_markOf_103 : decode cX7_markOf 103 = .ok (.ireturn, 1) := by decide +kernel
theorem dX7_hasFaded_0 : decode cX7_hasFaded 0 = .ok (.aload_n 0, 1) := by decide +kernel
theorem dX7_hasFaded_1 : decode cX7_hasFaded 1 = .ok (.iload_n 1, 1) := by decide +kernel
theorem dX7_hasFaded_2 : decode cX7_hasFaded 2 = .ok (.iconst 0, 1) := by decide +kernel
theorem dX7_hasFaded_3 : decode cX7_hasFaded 3 = .ok (.invokevirtual 39, 3) := by decide +kernel
theorem dX7_hasFaded_6 : decode cX7_hasFaded 6 = .ok (.aload_n 0, 1) := by decide +kernel
theorem dX7_hasFaded_7 : decode cX7_hasFaded 7 = .ok (.getfield 7, 3) := by decide +kernel
theorem dX7_hasFaded_10 : decode cX7_hasFaded 10 = .ok (.bipush 6, 2) := by decide +kernel
theorem dX7_hasFaded_12 : decode cX7_hasFaded 12 = .ok (.iaload, 1) := by decide +kernel
theorem dX7_hasFaded_13 : decode cX7_hasFaded 13 = .ok (.if_icmp .lt 7, 3) := by decide +kernel
theorem dX7_hasFaded_16 : decode cX7_hasFaded 16 = .ok (.iconst 1, 1) := by decide +kernel
theorem dX7_hasFaded_17 : decode cX7_hasFaded 17 = .ok (.goto 4, 3) := by decide +kernel
theorem dX7_hasFaded_20 : decode cX7_hasFaded 20 = .ok (.iconst 0, 1) := by decide +kernel
theorem dX7_hasFaded_21 : decode cX7_hasFaded 21 = .ok (.ireturn, 1) := by decide +kernel
theorem dX7_isGone_0 : decode cX7_isGone 0 = .ok (.iload_n 3, 1) := by decide +kernel
theorem dX7_isGone_1 : decode cX7_isGone 1 = .ok (.iconst 2, 1) := by decide +kernel
theorem dX7_isGone_2 : decode cX7_isGone 2 = .ok (.iconst 3, 1) := by decide +kernel
theorem dX7_isGone_3 : decode cX7_isGone 3 = .ok (.invokestatic 35, 3) := by decide +kernel
theorem dX7_isGone_6 : decode cX7_isGone 6 = .ok (.ifCond .eq 23, 3) := by decide +kernel
theorem dX7_isGone_9 : decode cX7_isGone 9 = .ok (.aload_n 0, 1) := by decide +kernel
theorem dX7_isGone_10 : decode cX7_isGone 10 = .ok (.iload_n 1, 1) := by decide +kernel
theorem dX7_isGone_11 : decode cX7_isGone 11 = .ok (.invokevirtual 79, 3) := by decide +kernel
theorem dX7_isGone_14 : decode cX7_isGone 14 = .ok (.ifCond .ne 11, 3) := by decide +kernel
theorem dX7_isGone_17 : decode cX7_isGone 17 = .ok (.aload_n 0, 1) := by decide +kernel
theorem dX7_isGone_18 : decode cX7_isGone 18 = .ok (.iload_n 2, 1) := by decide +kernel
theorem dX7_isGone_19 : decode cX7_isGone 19 = .ok (.invokevirtual 79, 3) := by decide +kernel
theorem dX7_isGone_22 : decode cX7_isGone 22 = .ok (.ifCond .eq 7, 3) := by decide +kernel
theorem dX7_isGone_25 : decode cX7_isGone 25 = .ok (.iconst 1, 1) := by decide +kernel
theorem dX7_isGone_26 : decode cX7_isGone 26 = .ok (.goto 4, 3) := by decide +kernel
theorem dX7_isGone_29 : decode cX7_isGone 29 = .ok (.iconst 0, 1) := by decide +kernel
theorem dX7_isGone_30 : decode cX7_isGone 30 = .ok (.ireturn, 1) := by decide +kernel
theorem dX7_differ_0 : decode cX7_differ 0 = .ok (.aload_n 0, 1) := by decide +kernel
theorem dX7_differ_1 : decode cX7_differ 1 = .ok (.iload_n 1, 1) := by decide +kernel
theorem dX7_differ_2 : decode cX7_differ 2 = .ok (.iload_n 3, 1) := by decide +kernel
theorem dX7_differ_3 : decode cX7_differ 3 = .ok (.invokevirtual 83, 3) := by decide +kernel
theorem dX7_differ_6 : decode cX7_differ 6 = .ok (.aload_n 0, 1) := by decide +kernel
theorem dX7_differ_7 : decode cX7_differ 7 = .ok (.iload_n 2, 1) := by decide +kernel
theorem dX7_differ_8 : decode cX7_differ 8 = .ok (.iload_n 3, 1) := by decide +kernel
theorem dX7_differ_9 : decode cX7_differ 9 = .ok (.invokevirtual 83, 3) := by decide +kernel
theorem dX7_differ_12 : decode cX7_differ 12 = .ok (.isub, 1) := by decide +kernel
theorem dX7_differ_13 : decode cX7_differ 13 = .ok (.invokestatic 64, 3) := by decide +kernel
theorem dX7_differ_16 : decode cX7_differ 16 = .ok (.aload_n 0, 1) := by decide +kernel
theorem dX7_differ_17 : decode cX7_differ 17 = .ok (.iload_n 1, 1) := by decide +kernel
theorem dX7_differ_18 : decode cX7_differ 18 = .ok (.iconst 0, 1) := by decide +kernel
theorem dX7_differ_19 : decode cX7_differ 19 = .ok (.invokevirtual 39, 3) := by decide +kernel
theorem dX7_differ_22 : decode cX7_differ 22 = .ok (.aload_n 0, 1) := by decide +kernel
theorem dX7_differ_23 : decode cX7_differ 23 = .ok (.iload_n 2, 1) := by decide +kernel
theorem dX7_differ_24 : decode cX7_differ 24 = .ok (.iconst 0, 1) := by decide +kernel
theorem dX7_differ_25 : decode cX7_differ 25 = .ok (.invokevirtual 39, 3) := by decide +kernel
theorem dX7_differ_28 : decode cX7_differ 28 = .ok (.isub, 1) := by decide +kernel
theorem dX7_differ_29 : decode cX7_differ 29 = .ok (.invokestatic 64, 3) := by decide +kernel
theorem dX7_differ_32 : decode cX7_differ 32 = .ok (.bipush 10, 2) := by decide +kernel
theorem dX7_differ_34 : decode cX7_differ 34 = .ok (.idiv, 1) := by decide +kernel
theorem dX7_differ_35 : decode cX7_differ 35 = .ok (.isub, 1) := by decide +kernel
theorem dX7_differ_36 : decode cX7_differ 36 = .ok (.ireturn, 1) := by decide +kernel
theorem dX7_agreeing_0 : decode cX7_agreeing 0 = .ok (.iconst 0, 1) := by decide +kernel
theorem dX7_agreeing_1 : decode cX7_agreeing 1 = .ok (.istore_n 3, 1) := by decide +kernel
theorem dX7_agreeing_2 : decode cX7_agreeing 2 = .ok (.iconst 0, 1) := by decide +kernel
theorem dX7_agreeing_3 : decode cX7_agreeing 3 = .ok (.istore 4, 2) := by decide +kernel
theorem dX7_agreeing_5 : decode cX7_agreeing 5 = .ok (.iload 4, 2) := by decide +kernel
theorem dX7_agreeing_7 : decode cX7_agreeing 7 = .ok (.bipush 6, 2) := by decide +kernel
theorem dX7_agreeing_9 : decode cX7_agreeing 9 = .ok (.if_icmp .ge 51, 3) := by decide +kernel
theorem dX7_agreeing_12 : decode cX7_agreeing 12 = .ok (.iload_n 3, 1) := by decide +kernel
theorem dX7_agreeing_13 : decode cX7_agreeing 13 = .ok (.aload_n 0, 1) := by decide +kernel
theorem dX7_agreeing_14 : decode cX7_agreeing 14 = .ok (.iload_n 1, 1) := by decide +kernel
theorem dX7_agreeing_15 : decode cX7_agreeing 15 = .ok (.iload_n 2, 1) := by decide +kernel
theorem dX7_agreeing_16 : decode cX7_agreeing 16 = .ok (.iload 4, 2) := by decide +kernel
theorem dX7_agreeing_18 : decode cX7_agreeing 18 = .ok (.invokevirtual 86, 3) := by decide +kernel
theorem dX7_agreeing_21 : decode cX7_agreeing 21 = .ok (.ifCond .ne 30, 3) := by decide +kernel
theorem dX7_agreeing_24 : decode cX7_agreeing 24 = .ok (.aload_n 0, 1) := by decide +kernel
theorem dX7_agreeing_25 : decode cX7_agreeing 25 = .ok (.iload_n 1, 1) := by decide +kernel
theorem dX7_agreeing_26 : decode cX7_agreeing 26 = .ok (.iload_n 2, 1) := by decide +kernel
theorem dX7_agreeing_27 : decode cX7_agreeing 27 = .ok (.iload 4, 2) := by decide +kernel
theorem dX7_agreeing_29 : decode cX7_agreeing 29 = .ok (.invokevirtual 89, 3) := by decide +kernel
theorem dX7_agreeing_32 : decode cX7_agreeing 32 = .ok (.aload_n 0, 1) := by decide +kernel
theorem dX7_agreeing_33 : decode cX7_agreeing 33 = .ok (.getfield 7, 3) := by decide +kernel
theorem dX7_agreeing_36 : decode cX7_agreeing 36 = .ok (.iconst 0, 1) := by decide +kernel
theorem dX7_agreeing_37 : decode cX7_agreeing 37 = .ok (.iload 4, 2) := by decide +kernel
theorem dX7_agreeing_39 : decode cX7_agreeing 39 = .ok (.iadd, 1) := by decide +kernel
theorem dX7_agreeing_40 : decode cX7_agreeing 40 = .ok (.iaload, 1) := by decide +kernel
theorem dX7_agreeing_41 : decode cX7_agreeing 41 = .ok (.if_icmp .gt 10, 3) := by decide +kernel
theorem dX7_agreeing_44 : decode cX7_agreeing 44 = .ok (.iconst 1, 1) := by decide +kernel
theorem dX7_agreeing_45 : decode cX7_agreeing 45 = .ok (.iload 4, 2) := by decide +kernel
theorem dX7_agreeing_47 : decode cX7_agreeing 47 = .ok (.ishl, 1) := by decide +kernel
theorem dX7_agreeing_48 : decode cX7_agreeing 48 = .ok (.goto 4, 3) := by decide +kernel
theorem dX7_agreeing_51 : decode cX7_agreeing 51 = .ok (.iconst 0, 1) := by decide +kernel
theorem dX7_agreeing_52 : decode cX7_agreeing 52 = .ok (.ior, 1) := by decide +kernel
theorem dX7_agreeing_53 : decode cX7_agreeing 53 = .ok (.istore_n 3, 1) := by decide +kernel
theorem dX7_agreeing_54 : decode cX7_agreeing 54 = .ok (.iinc 4 1, 3) := by decide +kernel
theorem dX7_agreeing_57 : decode cX7_agreeing 57 = .ok (.goto (-52), 3) := by decide +kernel
theorem dX7_agreeing_60 : decode cX7_agreeing 60 = .ok (.iload_n 3, 1) := by decide +kernel
theorem dX7_agreeing_61 : decode cX7_agreeing 61 = .ok (.ireturn, 1) := by decide +kernel
theorem dX7_ones_0 : decode cX7_ones 0 = .ok (.iconst 0, 1) := by decide +kernel
theorem dX7_ones_1 : decode cX7_ones 1 = .ok (.istore_n 1, 1) := by decide +kernel
theorem dX7_ones_2 : decode cX7_ones 2 = .ok (.iconst 0, 1) := by decide +kernel
theorem dX7_ones_3 : decode cX7_ones 3 = .ok (.istore_n 2, 1) := by decide +kernel
theorem dX7_ones_4 : decode cX7_ones 4 = .ok (.iload_n 2, 1) := by decide +kernel
theorem dX7_ones_5 : decode cX7_ones 5 = .ok (.bipush 8, 2) := by decide +kernel
theorem dX7_ones_7 : decode cX7_ones 7 = .ok (.if_icmp .ge 17, 3) := by decide +kernel
theorem dX7_ones_10 : decode cX7_ones 10 = .ok (.iload_n 1, 1) := by decide +kernel
theorem dX7_ones_11 : decode cX7_ones 11 = .ok (.iload_n 0, 1) := by decide +kernel
theorem dX7_ones_12 : decode cX7_ones 12 = .ok (.iload_n 2, 1) := by decide +kernel
theorem dX7_ones_13 : decode cX7_ones 13 = .ok (.ishr, 1) := by decide +kernel
theorem dX7_ones_14 : decode cX7_ones 14 = .ok (.iconst 1, 1) := by decide +kernel
theorem dX7_ones_15 : decode cX7_ones 15 = .ok (.iand, 1) := by decide +kernel
theorem dX7_ones_16 : decode cX7_ones 16 = .ok (.iadd, 1) := by decide +kernel
theorem dX7_ones_17 : decode cX7_ones 17 = .ok (.istore_n 1, 1) := by decide +kernel
theorem dX7_ones_18 : decode cX7_ones 18 = .ok (.iinc 2 1, 3) := by decide +kernel
theorem dX7_ones_21 : decode cX7_ones 21 = .ok (.goto (-17), 3) := by decide +kernel
theorem dX7_ones_24 : decode cX7_ones 24 = .ok (.iload_n 1, 1) := by decide +kernel
theorem dX7_ones_25 : decode cX7_ones 25 = .ok (.ireturn, 1) := by decide +kernel
theorem dX7_likeness_0 : decode cX7_likeness 0 = .ok (.aload_n 0, 1) := by decide +kernel
theorem dX7_likeness_1 : decode cX7_likeness 1 = .ok (.iload_n 1, 1) := by decide +kernel
theorem dX7_likeness_2 : decode cX7_likeness 2 = .ok (.iload_n 2, 1) := by decide +kernel
theorem dX7_likeness_3 : decode cX7_likeness 3 = .ok (.invokevirtual 92, 3) := by decide +kernel
theorem dX7_likeness_6 : decode cX7_likeness 6 = .ok (.invokestatic 95, 3) := by decide +kernel
theorem dX7_likeness_9 : decode cX7_likeness 9 = .ok (.ireturn, 1) := by decide +kernel
theorem dX7_trembles_0 : decode cX7_trembles 0 = .ok (.aload_n 0, 1) := by decide +kernel
theorem dX7_trembles_1 : decode cX7_trembles 1 = .ok (.iload_n 1, 1) := by decide +kernel
theorem dX7_trembles_2 : decode cX7_trembles 2 = .ok (.iconst 4, 1) := by decide +kernel
theorem dX7_trembles_3 : decode cX7_trembles 3 = .ok (.invokevirtual 61, 3) := by decide +kernel
theorem dX7_trembles_6 : decode cX7_trembles 6 = .ok (.aload_n 0, 1) := by decide +kernel
theorem dX7_trembles_7 : decode cX7_trembles 7 = .ok (.iload_n 1, 1) := by decide +kernel
theorem dX7_trembles_8 : decode cX7_trembles 8 = .ok (.iconst 1, 1) := by decide +kernel
theorem dX7_trembles_9 : decode cX7_trembles 9 = .ok (.invokevirtual 39, 3) := by decide +kernel
theorem dX7_trembles_12 : decode cX7_trembles 12 = .ok (.aload_n 0, 1) := by decide +kernel
theorem dX7_trembles_13 : decode cX7_trembles 13 = .ok (.getfield 7, 3) := by decide +kernel
theorem dX7_trembles_16 : decode cX7_trembles 16 = .ok (.bipush 7, 2) := by decide +kernel
theorem dX7_trembles_18 : decode cX7_trembles 18 = .ok (.iaload, 1) := by decide +kernel
theorem dX7_trembles_19 : decode cX7_trembles 19 = .ok (.imul, 1) := by decide +kernel
theorem dX7_trembles_20 : decode cX7_trembles 20 = .ok (.if_icmp .le 7, 3) := by decide +kernel
theorem dX7_trembles_23 : decode cX7_trembles 23 = .ok (.iconst 1, 1) := by decide +kernel
theorem dX7_trembles_24 : decode cX7_trembles 24 = .ok (.goto 4, 3) := by decide +kernel
theorem dX7_trembles_27 : decode cX7_trembles 27 = .ok (.iconst 0, 1) := by decide +kernel
theorem dX7_trembles_28 : decode cX7_trembles 28 = .ok (.ireturn, 1) := by decide +kernel
theorem dX7_join_0 : decode cX7_join 0 = .ok (.aload_n 0, 1) := by decide +kernel
theorem dX7_join_1 : decode cX7_join 1 = .ok (.getfield 28, 3) := by decide +kernel
theorem dX7_join_4 : decode cX7_join 4 = .ok (.iload_n 1, 1) := by decide +kernel
theorem dX7_join_5 : decode cX7_join 5 = .ok (.iaload, 1) := by decide +kernel
theorem dX7_join_6 : decode cX7_join 6 = .ok (.istore_n 3, 1) := by decide +kernel
theorem dX7_join_7 : decode cX7_join 7 = .ok (.aload_n 0, 1) := by decide +kernel
theorem dX7_join_8 : decode cX7_join 8 = .ok (.getfield 28, 3) := by decide +kernel
theorem dX7_join_11 : decode cX7_join 11 = .ok (.iload_n 2, 1) := by decide +kernel
theorem dX7_join_12 : decode cX7_join 12 = .ok (.iaload, 1) := by decide +kernel
theorem dX7_join_13 : decode cX7_join 13 = .ok (.istore 4, 2) := by decide +kernel
theorem dX7_join_15 : decode cX7_join 15 = .ok (.iload_n 3, 1) := by decide +kernel
theorem dX7_join_16 : decode cX7_join 16 = .ok (.iload 4, 2) := by decide +kernel
theorem dX7_join_18 : decode cX7_join 18 = .ok (.if_icmp .ge 7, 3) := by decide +kernel
theorem dX7_join_21 : decode cX7_join 21 = .ok (.iload_n 3, 1) := by decide +kernel
theorem dX7_join_22 : decode cX7_join 22 = .ok (.goto 5, 3) := by decide +kernel
theorem dX7_join_25 : decode cX7_join 25 = .ok (.iload 4, 2) := by decide +kernel
theorem dX7_join_27 : decode cX7_join 27 = .ok (.istore 5, 2) := by decide +kernel
theorem dX7_join_29 : decode cX7_join 29 = .ok (.iconst 0, 1) := by decide +kernel
theorem dX7_join_30 : decode cX7_join 30 = .ok (.istore 6, 2) := by decide +kernel
theorem dX7_join_32 : decode cX7_join 32 = .ok (.iload 6, 2) := by decide +kernel
theorem dX7_join_34 : decode cX7_join 34 = .ok (.aload_n 0, 1) := by decide +kernel
theorem dX7_join_35 : decode cX7_join 35 = .ok (.getfield 7, 3) := by decide +kernel
theorem dX7_join_38 : decode cX7_join 38 = .ok (.bipush 9, 2) := by decide +kernel
theorem dX7_join_40 : decode cX7_join 40 = .ok (.iaload, 1) := by decide +kernel
theorem dX7_join_41 : decode cX7_join 41 = .ok (.if_icmp .ge 51, 3) := by decide +kernel
theorem dX7_join_44 : decode cX7_join 44 = .ok (.aload_n 0, 1) := by decide +kernel
theorem dX7_join_45 : decode cX7_join 45 = .ok (.getfield 28, 3) := by decide +kernel
theorem dX7_join_48 : decode cX7_join 48 = .ok (.iload 6, 2) := by decide +kernel
theorem dX7_join_50 : decode cX7_join 50 = .ok (.aload_n 0, 1) := by decide +kernel
theorem dX7_join_51 : decode cX7_join 51 = .ok (.getfield 28, 3) := by decide +kernel
theorem dX7_join_54 : decode cX7_join 54 = .ok (.iload 6, 2) := by decide +kernel
theorem dX7_join_56 : decode cX7_join 56 = .ok (.iaload, 1) := by decide +kernel
theorem dX7_join_57 : decode cX7_join 57 = .ok (.iload_n 3, 1) := by decide +kernel
theorem dX7_join_58 : decode cX7_join 58 = .ok (.if_icmp .eq 15, 3) := by decide +kernel
theorem dX7_join_61 : decode cX7_join 61 = .ok (.aload_n 0, 1) := by decide +kernel
theorem dX7_join_62 : decode cX7_join 62 = .ok (.getfield 28, 3) := by decide +kernel
theorem dX7_join_65 : decode cX7_join 65 = .ok (.iload 6, 2) := by decide +kernel
theorem dX7_join_67 : decode cX7_join 67 = .ok (.iaload, 1) := by decide +kernel
theorem dX7_join_68 : decode cX7_join 68 = .ok (.iload 4, 2) := by decide +kernel
theorem dX7_join_70 : decode cX7_join 70 = .ok (.if_icmp .ne 8, 3) := by decide +kernel
theorem dX7_join_73 : decode cX7_join 73 = .ok (.iload 5, 2) := by decide +kernel
theorem dX7_join_75 : decode cX7_join 75 = .ok (.goto 10, 3) := by decide +kernel
theorem dX7_join_78 : decode cX7_join 78 = .ok (.aload_n 0, 1) := by decide +kernel
theorem dX7_join_79 : decode cX7_join 79 = .ok (.getfield 28, 3) := by decide +kernel
theorem dX7_join_82 : decode cX7_join 82 = .ok (.iload 6, 2) := by decide +kernel
theorem dX7_join_84 : decode cX7_join 84 = .ok (.iaload, 1) := by decide +kernel
theorem dX7_join_85 : decode cX7_join 85 = .ok (.iastore, 1) := by decide +kernel
theorem dX7_join_86 : decode cX7_join 86 = .ok (.iinc 6 1, 3) := by decide +kernel
theorem dX7_join_89 : decode cX7_join 89 = .ok (.goto (-57), 3) := by decide +kernel
theorem dX7_join_92 : decode cX7_join 92 = .ok (.return_, 1) := by decide +kernel
theorem dX7_layHands_0 : decode cX7_layHands 0 = .ok (.iconst 0, 1) := by decide +kernel
theorem dX7_layHands_1 : decode cX7_layHands 1 = .ok (.istore_n 2, 1) := by decide +kernel
theorem dX7_layHands_2 : decode cX7_layHands 2 = .ok (.iload_n 2, 1) := by decide +kernel
theorem dX7_layHands_3 : decode cX7_layHands 3 = .ok (.bipush 8, 2) := by decide +kernel
theorem dX7_layHands_5 : decode cX7_layHands 5 = .ok (.if_icmp .ge 16, 3) := by decide +kernel
theorem dX7_layHands_8 : decode cX7_layHands 8 = .ok (.aload_n 0, 1) := by decide +kernel
theorem dX7_layHands_9 : decode cX7_layHands 9 = .ok (.getfield 28, 3) := by decide +kernel
theorem dX7_layHands_12 : decode cX7_layHands 12 = .ok (.iload_n 2, 1) := by decide +kernel
theorem dX7_layHands_13 : decode cX7_layHands 13 = .ok (.iload_n 2, 1) := by decide +kernel
theorem dX7_layHands_14 : decode cX7_layHands 14 = .ok (.iastore, 1) := by decide +kernel
theorem dX7_layHands_15 : decode cX7_layHands 15 = .ok (.iinc 2 1, 3) := by decide +kernel
theorem dX7_layHands_18 : decode cX7_layHands 18 = .ok (.goto (-16), 3) := by decide +kernel
theorem dX7_layHands_21 : decode cX7_layHands 21 = .ok (.iconst 0, 1) := by decide +kernel
theorem dX7_layHands_22 : decode cX7_layHands 22 = .ok (.istore_n 2, 1) := by decide +kernel
theorem dX7_layHands_23 : decode cX7_layHands 23 = .ok (.iload_n 2, 1) := by decide +kernel
theorem dX7_layHands_24 : decode cX7_layHands 24 = .ok (.aload_n 0, 1) := by decide +kernel
theorem dX7_layHands_25 : decode cX7_layHands 25 = .ok (.getfield 7, 3) := by decide +kernel
theorem dX7_layHands_28 : decode cX7_layHands 28 = .ok (.bipush 10, 2) := by decide +kernel
theorem dX7_layHands_30 : decode cX7_layHands 30 = .ok (.iaload, 1) := by decide +kernel
theorem dX7_layHands_31 : decode cX7_layHands 31 = .ok (.if_icmp .ge 40, 3) := by decide +kernel
theorem dX7_layHands_34 : decode cX7_layHands 34 = .ok (.iload_n 2, 1) := by decide +kernel
theorem dX7_layHands_35 : decode cX7_layHands 35 = .ok (.iload_n 1, 1) := by decide +kernel
theorem dX7_layHands_36 : decode cX7_layHands 36 = .ok (.if_icmp .eq 29, 3) := by decide +kernel
theorem dX7_layHands_39 : decode cX7_layHands 39 = .ok (.aload_n 0, 1) := by decide +kernel
theorem dX7_layHands_40 : decode cX7_layHands 40 = .ok (.iload_n 2, 1) := by decide +kernel
theorem dX7_layHands_41 : decode cX7_layHands 41 = .ok (.iconst 2, 1) := by decide +kernel
theorem dX7_layHands_42 : decode cX7_layHands 42 = .ok (.invokevirtual 98, 3) := by decide +kernel
theorem dX7_layHands_45 : decode cX7_layHands 45 = .ok (.iconst 1, 1) := by decide +kernel
theorem dX7_layHands_46 : decode cX7_layHands 46 = .ok (.if_icmp .ne 19, 3) := by decide +kernel
theorem dX7_layHands_49 : decode cX7_layHands 49 = .ok (.aload_n 0, 1) := by decide +kernel
theorem dX7_layHands_50 : decode cX7_layHands 50 = .ok (.aload_n 0, 1) := by decide +kernel
theorem dX7_layHands_51 : decode cX7_layHands 51 = .ok (.iload_n 2, 1) := by decide +kernel
theorem dX7_layHands_52 : decode cX7_layHands 52 = .ok (.iconst 0, 1) := by decide +kernel
theorem dX7_layHands_53 : decode cX7_layHands 53 = .ok (.invokevirtual 98, 3) := by decide +kernel
theorem dX7_layHands_56 : decode cX7_layHands 56 = .ok (.aload_n 0, 1) := by decide +kernel
theorem dX7_layHands_57 : decode cX7_layHands 57 = .ok (.iload_n 2, 1) := by decide +kernel
theorem dX7_layHands_58 : decode cX7_layHands 58 = .ok (.iconst 1, 1) := by decide +kernel
theorem dX7_layHands_59 : decode cX7_layHands 59 = .ok (.invokevirtual 98, 3) := by decide +kernel
theorem dX7_layHands_62 : decode cX7_layHands 62 = .ok (.invokevirtual 101, 3) := by decide +kernel
theorem dX7_layHands_65 : decode cX7_layHands 65 = .ok (.iinc 2 1, 3) := by decide +kernel
theorem dX7_layHands_68 : decode cX7_layHands 68 = .ok (.goto (-45), 3) := by decide +kernel
theorem dX7_layHands_71 : decode cX7_layHands 71 = .ok (.return_, 1) := by decide +kernel
theorem dX7_hands_0 : decode cX7_hands 0 = .ok (.aload_n 0, 1) := by decide +kernel
theorem dX7_hands_1 : decode cX7_hands 1 = .ok (.iconst (-1), 1) := by decide +kernel
theorem dX7_hands_2 : decode cX7_hands 2 = .ok (.invokevirtual 105, 3) := by decide +kernel
theorem dX7_hands_5 : decode cX7_hands 5 = .ok (.iconst 0, 1) := by decide +kernel
theorem dX7_hands_6 : decode cX7_hands 6 = .ok (.istore_n 1, 1) := by decide +kernel
theorem dX7_hands_7 : decode cX7_hands 7 = .ok (.iconst 0, 1) := by decide +kernel
theorem dX7_hands_8 : decode cX7_hands 8 = .ok (.istore_n 2, 1) := by decide +kernel
theorem dX7_hands_9 : decode cX7_hands 9 = .ok (.iload_n 2, 1) := by decide +kernel
theorem dX7_hands_10 : decode cX7_hands 10 = .ok (.aload_n 0, 1) := by decide +kernel
theorem dX7_hands_11 : decode cX7_hands 11 = .ok (.getfield 7, 3) := by decide +kernel
theorem dX7_hands_14 : decode cX7_hands 14 = .ok (.bipush 9, 2) := by decide +kernel
theorem dX7_hands_16 : decode cX7_hands 16 = .ok (.iaload, 1) := by decide +kernel
theorem dX7_hands_17 : decode cX7_hands 17 = .ok (.if_icmp .ge 27, 3) := by decide +kernel
theorem dX7_hands_20 : decode cX7_hands 20 = .ok (.iload_n 1, 1) := by decide +kernel
theorem dX7_hands_21 : decode cX7_hands 21 = .ok (.aload_n 0, 1) := by decide +kernel
theorem dX7_hands_22 : decode cX7_hands 22 = .ok (.getfield 28, 3) := by decide +kernel
theorem dX7_hands_25 : decode cX7_hands 25 = .ok (.iload_n 2, 1) := by decide +kernel
theorem dX7_hands_26 : decode cX7_hands 26 = .ok (.iaload, 1) := by decide +kernel
theorem dX7_hands_27 : decode cX7_hands 27 = .ok (.iload_n 2, 1) := by decide +kernel
theorem dX7_hands_28 : decode cX7_hands 28 = .ok (.if_icmp .ne 7, 3) := by decide +kernel
theorem dX7_hands_31 : decode cX7_hands 31 = .ok (.iconst 1, 1) := by decide +kernel
theorem dX7_hands_32 : decode cX7_hands 32 = .ok (.goto 4, 3) := by decide +kernel
theorem dX7_hands_35 : decode cX7_hands 35 = .ok (.iconst 0, 1) := by decide +kernel
theorem dX7_hands_36 : decode cX7_hands 36 = .ok (.iadd, 1) := by decide +kernel
theorem dX7_hands_37 : decode cX7_hands 37 = .ok (.istore_n 1, 1) := by decide +kernel
theorem dX7_hands_38 : decode cX7_hands 38 = .ok (.iinc 2 1, 3) := by decide +kernel
theorem dX7_hands_41 : decode cX7_hands 41 = .ok (.goto (-32), 3) := by decide +kernel
theorem dX7_hands_44 : decode cX7_hands 44 = .ok (.iload_n 1, 1) := by decide +kernel
theorem dX7_hands_45 : decode cX7_hands 45 = .ok (.ireturn, 1) := by decide +kernel
theorem dX7_areOfOne_0 : decode cX7_areOfOne 0 = .ok (.aload_n 0, 1) := by decide +kernel
theorem dX7_areOfOne_1 : decode cX7_areOfOne 1 = .ok (.iconst (-1), 1) := by decide +kernel
theorem dX7_areOfOne_2 : decode cX7_areOfOne 2 = .ok (.invokevirtual 105, 3) := by decide +kernel
theorem dX7_areOfOne_5 : decode cX7_areOfOne 5 = .ok (.aload_n 0, 1) := by decide +kernel
theorem dX7_areOfOne_6 : decode cX7_areOfOne 6 = .ok (.getfield 28, 3) := by decide +kernel
theorem dX7_areOfOne_9 : decode cX7_areOfOne 9 = .ok (.iload_n 1, 1) := by decide +kernel
theorem dX7_areOfOne_10 : decode cX7_areOfOne 10 = .ok (.iaload, 1) := by decide +kernel
theorem dX7_areOfOne_11 : decode cX7_areOfOne 11 = .ok (.aload_n 0, 1) := by decide +kernel
theorem dX7_areOfOne_12 : decode cX7_areOfOne 12 = .ok (.getfield 28, 3) := by decide +kernel
theorem dX7_areOfOne_15 : decode cX7_areOfOne 15 = .ok (.iload_n 2, 1) := by decide +kernel
theorem dX7_areOfOne_16 : decode cX7_areOfOne 16 = .ok (.iaload, 1) := by decide +kernel
theorem dX7_areOfOne_17 : decode cX7_areOfOne 17 = .ok (.if_icmp .ne 7, 3) := by decide +kernel
theorem dX7_areOfOne_20 : decode cX7_areOfOne 20 = .ok (.iconst 1, 1) := by decide +kernel
theorem dX7_areOfOne_21 : decode cX7_areOfOne 21 = .ok (.goto 4, 3) := by decide +kernel
theorem dX7_areOfOne_24 : decode cX7_areOfOne 24 = .ok (.iconst 0, 1) := by decide +kernel
theorem dX7_areOfOne_25 : decode cX7_areOfOne 25 = .ok (.ireturn, 1) := by decide +kernel
theorem dX7_findOath_0 : decode cX7_findOath 0 = .ok (.iconst 0, 1) := by decide +kernel
theorem dX7_findOath_1 : decode cX7_findOath 1 = .ok (.istore_n 3, 1) := by decide +kernel
theorem dX7_findOath_2 : decode cX7_findOath 2 = .ok (.iload_n 3, 1) := by decide +kernel
theorem dX7_findOath_3 : decode cX7_findOath 3 = .ok (.aload_n 0, 1) := by decide +kernel
theorem dX7_findOath_4 : decode cX7_findOath 4 = .ok (.getfield 7, 3) := by decide +kernel
theorem dX7_findOath_7 : decode cX7_findOath 7 = .ok (.bipush 10, 2) := by decide +kernel
theorem dX7_findOath_9 : decode cX7_findOath 9 = .ok (.iaload, 1) := by decide +kernel
theorem dX7_findOath_10 : decode cX7_findOath 10 = .ok (.if_icmp .ge 51, 3) := by decide +kernel
theorem dX7_findOath_13 : decode cX7_findOath 13 = .ok (.aload_n 0, 1) := by decide +kernel
theorem dX7_findOath_14 : decode cX7_findOath 14 = .ok (.iload_n 3, 1) := by decide +kernel
theorem dX7_findOath_15 : decode cX7_findOath 15 = .ok (.iconst 0, 1) := by decide +kernel
theorem dX7_findOath_16 : decode cX7_findOath 16 = .ok (.invokevirtual 98, 3) := by decide +kernel
theorem dX7_findOath_19 : decode cX7_findOath 19 = .ok (.istore 4, 2) := by decide +kernel
theorem dX7_findOath_21 : decode cX7_findOath 21 = .ok (.aload_n 0, 1) := by decide +kernel
theorem dX7_findOath_22 : decode cX7_findOath 22 = .ok (.iload_n 3, 1) := by decide +kernel
theorem dX7_findOath_23 : decode cX7_findOath 23 = .ok (.iconst 1, 1) := by decide +kernel
theorem dX7_findOath_24 : decode cX7_findOath 24 = .ok (.invokevirtual 98, 3) := by decide +kernel
theorem dX7_findOath_27 : decode cX7_findOath 27 = .ok (.istore 5, 2) := by decide +kernel
theorem dX7_findOath_29 : decode cX7_findOath 29 = .ok (.iload 4, 2) := by decide +kernel
theorem dX7_findOath_31 : decode cX7_findOath 31 = .ok (.iload_n 1, 1) := by decide +kernel
theorem dX7_findOath_32 : decode cX7_findOath 32 = .ok (.if_icmp .ne 9, 3) := by decide +kernel
theorem dX7_findOath_35 : decode cX7_findOath 35 = .ok (.iload 5, 2) := by decide +kernel
theorem dX7_findOath_37 : decode cX7_findOath 37 = .ok (.iload_n 2, 1) := by decide +kernel
theorem dX7_findOath_38 : decode cX7_findOath 38 = .ok (.if_icmp .eq 15, 3) := by decide +kernel
theorem dX7_findOath_41 : decode cX7_findOath 41 = .ok (.iload 4, 2) := by decide +kernel
theorem dX7_findOath_43 : decode cX7_findOath 43 = .ok (.iload_n 2, 1) := by decide +kernel
theorem dX7_findOath_44 : decode cX7_findOath 44 = .ok (.if_icmp .ne 11, 3) := by decide +kernel
theorem dX7_findOath_47 : decode cX7_findOath 47 = .ok (.iload 5, 2) := by decide +kernel
theorem dX7_findOath_49 : decode cX7_findOath 49 = .ok (.iload_n 1, 1) := by decide +kernel
theorem dX7_findOath_50 : decode cX7_findOath 50 = .ok (.if_icmp .ne 5, 3) := by decide +kernel
theorem dX7_findOath_53 : decode cX7_findOath 53 = .ok (.iload_n 3, 1) := by decide +kernel
theorem dX7_findOath_54 : decode cX7_findOath 54 = .ok (.ireturn, 1) := by decide +kernel
theorem dX7_findOath_55 : decode cX7_findOath 55 = .ok (.iinc 3 1, 3) := by decide +kernel
theorem dX7_findOath_58 : decode cX7_findOath 58 = .ok (.goto (-56), 3) := by decide +kernel
theorem dX7_findOath_61 : decode cX7_findOath 61 = .ok (.iconst (-1), 1) := by decide +kernel
theorem dX7_findOath_62 : decode cX7_findOath 62 = .ok (.ireturn, 1) := by decide +kernel
theorem dX7_breaks_0 : decode cX7_breaks 0 = .ok (.aload_n 0, 1) := by decide +kernel
theorem dX7_breaks_1 : decode cX7_breaks 1 = .ok (.iconst (-1), 1) := by decide +kernel
theorem dX7_breaks_2 : decode cX7_breaks 2 = .ok (.invokevirtual 105, 3) := by decide +kernel
theorem dX7_breaks_5 : decode cX7_breaks 5 = .ok (.aload_n 0, 1) := by decide +kernel
theorem dX7_breaks_6 : decode cX7_breaks 6 = .ok (.iload_n 1, 1) := by decide +kernel
theorem dX7_breaks_7 : decode cX7_breaks 7 = .ok (.iload_n 2, 1) := by decide +kernel
theorem dX7_breaks_8 : decode cX7_breaks 8 = .ok (.invokevirtual 101, 3) := by decide +kernel
theorem dX7_breaks_11 : decode cX7_breaks 11 = .ok (.iconst 0, 1) := by decide +kernel
theorem dX7_breaks_12 : decode cX7_breaks 12 = .ok (.istore_n 3, 1) := by decide +kernel
theorem dX7_breaks_13 : decode cX7_breaks 13 = .ok (.iconst 0, 1) := by decide +kernel
theorem dX7_breaks_14 : decode cX7_breaks 14 = .ok (.istore 4, 2) := by decide +kernel
theorem dX7_breaks_16 : decode cX7_breaks 16 = .ok (.iload 4, 2) := by decide +kernel
theorem dX7_breaks_18 : decode cX7_breaks 18 = .ok (.aload_n 0, 1) := by decide +kernel
theorem dX7_breaks_19 : decode cX7_breaks 19 = .ok (.getfield 7, 3) := by decide +kernel
theorem dX7_breaks_22 : decode cX7_breaks 22 = .ok (.bipush 10, 2) := by decide +kernel
theorem dX7_breaks_24 : decode cX7_breaks 24 = .ok (.iaload, 1) := by decide +kernel
theorem dX7_breaks_25 : decode cX7_breaks 25 = .ok (.if_icmp .ge 56, 3) := by decide +kernel
theorem dX7_breaks_28 : decode cX7_breaks 28 = .ok (.iload_n 3, 1) := by decide +kernel
theorem dX7_breaks_29 : decode cX7_breaks 29 = .ok (.ifCond .ne 40, 3) := by decide +kernel
theorem dX7_breaks_32 : decode cX7_breaks 32 = .ok (.aload_n 0, 1) := by decide +kernel
theorem dX7_breaks_33 : decode cX7_breaks 33 = .ok (.iload 4, 2) := by decide +kernel
theorem dX7_breaks_35 : decode cX7_breaks 35 = .ok (.iconst 2, 1) := by decide +kernel
theorem dX7_breaks_36 : decode cX7_breaks 36 = .ok (.invokevirtual 98, 3) := by decide +kernel
theorem dX7_breaks_39 : decode cX7_breaks 39 = .ok (.ifCond .ne 34, 3) := by decide +kernel
theorem dX7_breaks_42 : decode cX7_breaks 42 = .ok (.aload_n 0, 1) := by decide +kernel
theorem dX7_breaks_43 : decode cX7_breaks 43 = .ok (.getfield 28, 3) := by decide +kernel
theorem dX7_breaks_46 : decode cX7_breaks 46 = .ok (.aload_n 0, 1) := by decide +kernel
theorem dX7_breaks_47 : decode cX7_breaks 47 = .ok (.iload 4, 2) := by decide +kernel
theorem dX7_breaks_49 : decode cX7_breaks 49 = .ok (.iconst 0, 1) := by decide +kernel
theorem dX7_breaks_50 : decode cX7_breaks 50 = .ok (.invokevirtual 98, 3) := by decide +kernel
theorem dX7_breaks_53 : decode cX7_breaks 53 = .ok (.iaload, 1) := by decide +kernel
theorem dX7_breaks_54 : decode cX7_breaks 54 = .ok (.aload_n 0, 1) := by decide +kernel
theorem dX7_breaks_55 : decode cX7_breaks 55 = .ok (.getfield 28, 3) := by decide +kernel
theorem dX7_breaks_58 : decode cX7_breaks 58 = .ok (.aload_n 0, 1) := by decide +kernel
theorem dX7_breaks_59 : decode cX7_breaks 59 = .ok (.iload 4, 2) := by decide +kernel
theorem dX7_breaks_61 : decode cX7_breaks 61 = .ok (.iconst 1, 1) := by decide +kernel
theorem dX7_breaks_62 : decode cX7_breaks 62 = .ok (.invokevirtual 98, 3) := by decide +kernel
theorem dX7_breaks_65 : decode cX7_breaks 65 = .ok (.iaload, 1) := by decide +kernel
theorem dX7_breaks_66 : decode cX7_breaks 66 = .ok (.if_icmp .ne 7, 3) := by decide +kernel
theorem dX7_breaks_69 : decode cX7_breaks 69 = .ok (.iconst 1, 1) := by decide +kernel
theorem dX7_breaks_70 : decode cX7_breaks 70 = .ok (.goto 4, 3) := by decide +kernel
theorem dX7_breaks_73 : decode cX7_breaks 73 = .ok (.iconst 0, 1) := by decide +kernel
theorem dX7_breaks_74 : decode cX7_breaks 74 = .ok (.istore_n 3, 1) := by decide +kernel
theorem dX7_breaks_75 : decode cX7_breaks 75 = .ok (.iinc 4 1, 3) := by decide +kernel
theorem dX7_breaks_78 : decode cX7_breaks 78 = .ok (.goto (-62), 3) := by decide +kernel
theorem dX7_breaks_81 : decode cX7_breaks 81 = .ok (.iload_n 3, 1) := by decide +kernel
theorem dX7_breaks_82 : decode cX7_breaks 82 = .ok (.ireturn, 1) := by decide +kernel
theorem dX7_whyNotSworn_0 : decode cX7_whyNotSworn 0 = .ok (.iload_n 1, 1) := by decide +kernel
theorem dX7_whyNotSworn_1 : decode cX7_whyNotSworn 1 = .ok (.iload_n 2, 1) := by decide +kernel
theorem dX7_whyNotSworn_2 : decode cX7_whyNotSworn 2 = .ok (.if_icmp .ne 5, 3) := by decide +kernel
theorem dX7_whyNotSworn_5 : decode cX7_whyNotSworn 5 = .ok (.iconst 1, 1) := by decide +kernel
theorem dX7_whyNotSworn_6 : decode cX7_whyNotSworn 6 = .ok (.ireturn, 1) := by decide +kernel
theorem dX7_whyNotSworn_7 : decode cX7_whyNotSworn 7 = .ok (.aload_n 0, 1) := by decide +kernel
theorem dX7_whyNotSworn_8 : decode cX7_whyNotSworn 8 = .ok (.iload_n 1, 1) := by decide +kernel
theorem dX7_whyNotSworn_9 : decode cX7_whyNotSworn 9 = .ok (.iload_n 2, 1) := by decide +kernel
theorem dX7_whyNotSworn_10 : decode cX7_whyNotSworn 10 = .ok (.invokevirtual 109, 3) := by decide +kernel
theorem dX7_whyNotSworn_13 : decode cX7_whyNotSworn 13 = .ok (.iconst (-1), 1) := by decide +kernel
theorem dX7_whyNotSworn_14 : decode cX7_whyNotSworn 14 = .ok (.if_icmp .eq 5, 3) := by decide +kernel
theorem dX7_whyNotSworn_17 : decode cX7_whyNotSworn 17 = .ok (.iconst 2, 1) := by decide +kernel
theorem dX7_whyNotSworn_18 : decode cX7_whyNotSworn 18 = .ok (.ireturn, 1) := by decide +kernel
theorem dX7_whyNotSworn_19 : decode cX7_whyNotSworn 19 = .ok (.iload_n 3, 1) := by decide +kernel
theorem dX7_whyNotSworn_20 : decode cX7_whyNotSworn 20 = .ok (.ifCond .ne 19, 3) := by decide +kernel
theorem dX7_whyNotSworn_23 : decode cX7_whyNotSworn 23 = .ok (.aload_n 0, 1) := by decide +kernel
theorem dX7_whyNotSworn_24 : decode cX7_whyNotSworn 24 = .ok (.iload_n 1, 1) := by decide +kernel
theorem dX7_whyNotSworn_25 : decode cX7_whyNotSworn 25 = .ok (.iload_n 2, 1) := by decide +kernel
theorem dX7_whyNotSworn_26 : decode cX7_whyNotSworn 26 = .ok (.invokevirtual 112, 3) := by decide +kernel
theorem dX7_whyNotSworn_29 : decode cX7_whyNotSworn 29 = .ok (.ifCond .eq 8, 3) := by decide +kernel
theorem dX7_whyNotSworn_32 : decode cX7_whyNotSworn 32 = .ok (.bipush 6, 2) := by decide +kernel
theorem dX7_whyNotSworn_34 : decode cX7_whyNotSworn 34 = .ok (.goto 4, 3) := by decide +kernel
theorem dX7_whyNotSworn_37 : decode cX7_whyNotSworn 37 = .ok (.iconst 0, 1) := by decide +kernel
theorem dX7_whyNotSworn_38 : decode cX7_whyNotSworn 38 = .ok (.ireturn, 1) := by decide +kernel
theorem dX7_whyNotSworn_39 : decode cX7_whyNotSworn 39 = .ok (.aload_n 0, 1) := by decide +kernel
theorem dX7_whyNotSworn_40 : decode cX7_whyNotSworn 40 = .ok (.iload_n 1, 1) := by decide +kernel
theorem dX7_whyNotSworn_41 : decode cX7_whyNotSworn 41 = .ok (.invokevirtual 116, 3) := by decide +kernel
theorem dX7_whyNotSworn_44 : decode cX7_whyNotSworn 44 = .ok (.ifCond .ne 11, 3) := by decide +kernel
theorem dX7_whyNotSworn_47 : decode cX7_whyNotSworn 47 = .ok (.aload_n 0, 1) := by decide +kernel
theorem dX7_whyNotSworn_48 : decode cX7_whyNotSworn 48 = .ok (.iload_n 2, 1) := by decide +kernel
theorem dX7_whyNotSworn_49 : decode cX7_whyNotSworn 49 = .ok (.invokevirtual 116, 3) := by decide +kernel
theorem dX7_whyNotSworn_52 : decode cX7_whyNotSworn 52 = .ok (.ifCond .eq 5, 3) := by decide +kernel
theorem dX7_whyNotSworn_55 : decode cX7_whyNotSworn 55 = .ok (.iconst 3, 1) := by decide +kernel
theorem dX7_whyNotSworn_56 : decode cX7_whyNotSworn 56 = .ok (.ireturn, 1) := by decide +kernel
theorem dX7_whyNotSworn_57 : decode cX7_whyNotSworn 57 = .ok (.aload_n 0, 1) := by decide +kernel
theorem dX7_whyNotSworn_58 : decode cX7_whyNotSworn 58 = .ok (.iload_n 1, 1) := by decide +kernel
theorem dX7_whyNotSworn_59 : decode cX7_whyNotSworn 59 = .ok (.iload_n 2, 1) := by decide +kernel
theorem dX7_whyNotSworn_60 : decode cX7_whyNotSworn 60 = .ok (.invokevirtual 119, 3) := by decide +kernel
theorem dX7_whyNotSworn_63 : decode cX7_whyNotSworn 63 = .ok (.aload_n 0, 1) := by decide +kernel
theorem dX7_whyNotSworn_64 : decode cX7_whyNotSworn 64 = .ok (.getfield 7, 3) := by decide +kernel
theorem dX7_whyNotSworn_67 : decode cX7_whyNotSworn 67 = .ok (.bipush 8, 2) := by decide +kernel
theorem dX7_whyNotSworn_69 : decode cX7_whyNotSworn 69 = .ok (.iaload, 1) := by decide +kernel
theorem dX7_whyNotSworn_70 : decode cX7_whyNotSworn 70 = .ok (.if_icmp .ge 7, 3) := by decide +kernel
theorem dX7_whyNotSworn_73 : decode cX7_whyNotSworn 73 = .ok (.iconst 4, 1) := by decide +kernel
theorem dX7_whyNotSworn_74 : decode cX7_whyNotSworn 74 = .ok (.goto 17, 3) := by decide +kernel
theorem dX7_whyNotSworn_77 : decode cX7_whyNotSworn 77 = .ok (.aload_n 0, 1) := by decide +kernel
theorem dX7_whyNotSworn_78 : decode cX7_whyNotSworn 78 = .ok (.iload_n 1, 1) := by decide +kernel
theorem dX7_whyNotSworn_79 : decode cX7_whyNotSworn 79 = .ok (.iload_n 2, 1) := by decide +kernel
theorem dX7_whyNotSworn_80 : decode cX7_whyNotSworn 80 = .ok (.invokevirtual 122, 3) := by decide +kernel
theorem dX7_whyNotSworn_83 : decode cX7_whyNotSworn 83 = .ok (.ifCond .eq 7, 3) := by decide +kernel
theorem dX7_whyNotSworn_86 : decode cX7_whyNotSworn 86 = .ok (.iconst 5, 1) := by decide +kernel
theorem dX7_whyNotSworn_87 : decode cX7_whyNotSworn 87 = .ok (.goto 4, 3) := by decide +kernel
theorem dX7_whyNotSworn_90 : decode cX7_whyNotSworn 90 = .ok (.iconst 0, 1) := by decide +kernel
theorem dX7_whyNotSworn_91 : decode cX7_whyNotSworn 91 = .ok (.ireturn, 1) := by decide +kernel
theorem dX7_swears_0 : decode cX7_swears 0 = .ok (.bipush 14, 2) := by decide +kernel
theorem dX7_swears_2 : decode cX7_swears 2 = .ok (.iconst 3, 1) := by decide +kernel
theorem dX7_swears_3 : decode cX7_swears 3 = .ok (.aload_n 0, 1) := by decide +kernel
theorem dX7_swears_4 : decode cX7_swears 4 = .ok (.getfield 7, 3) := by decide +kernel
theorem dX7_swears_7 : decode cX7_swears 7 = .ok (.bipush 10, 2) := by decide +kernel
theorem dX7_swears_9 : decode cX7_swears 9 = .ok (.iaload, 1) := by decide +kernel
theorem dX7_swears_10 : decode cX7_swears 10 = .ok (.imul, 1) := by decide +kernel
theorem dX7_swears_11 : decode cX7_swears 11 = .ok (.iadd, 1) := by decide +kernel
theorem dX7_swears_12 : decode cX7_swears 12 = .ok (.istore 4, 2) := by decide +kernel
theorem dX7_swears_14 : decode cX7_swears 14 = .ok (.aload_n 0, 1) := by decide +kernel
theorem dX7_swears_15 : decode cX7_swears 15 = .ok (.getfield 7, 3) := by decide +kernel
theorem dX7_swears_18 : decode cX7_swears 18 = .ok (.iload 4, 2) := by decide +kernel
theorem dX7_swears_20 : decode cX7_swears 20 = .ok (.iload_n 1, 1) := by decide +kernel
theorem dX7_swears_21 : decode cX7_swears 21 = .ok (.iastore, 1) := by decide +kernel
theorem dX7_swears_22 : decode cX7_swears 22 = .ok (.aload_n 0, 1) := by decide +kernel
theorem dX7_swears_23 : decode cX7_swears 23 = .ok (.getfield 7, 3) := by decide +kernel
theorem dX7_swears_26 : decode cX7_swears 26 = .ok (.iload 4, 2) := by decide +kernel
theorem dX7_swears_28 : decode cX7_swears 28 = .ok (.iconst 1, 1) := by decide +kernel
theorem dX7_swears_29 : decode cX7_swears 29 = .ok (.iadd, 1) := by decide +kernel
theorem dX7_swears_30 : decode cX7_swears 30 = .ok (.iload_n 2, 1) := by decide +kernel
theorem dX7_swears_31 : decode cX7_swears 31 = .ok (.iastore, 1) := by decide +kernel
theorem dX7_swears_32 : decode cX7_swears 32 = .ok (.aload_n 0, 1) := by decide +kernel
theorem dX7_swears_33 : decode cX7_swears 33 = .ok (.getfield 7, 3) := by decide +kernel
theorem dX7_swears_36 : decode cX7_swears 36 = .ok (.iload 4, 2) := by decide +kernel
theorem dX7_swears_38 : decode cX7_swears 38 = .ok (.iconst 2, 1) := by decide +kernel
theorem dX7_swears_39 : decode cX7_swears 39 = .ok (.iadd, 1) := by decide +kernel
theorem dX7_swears_40 : decode cX7_swears 40 = .ok (.iload_n 3, 1) := by decide +kernel
theorem dX7_swears_41 : decode cX7_swears 41 = .ok (.ifCond .eq 7, 3) := by decide +kernel
theorem dX7_swears_44 : decode cX7_swears 44 = .ok (.iconst 1, 1) := by decide +kernel
theorem dX7_swears_45 : decode cX7_swears 45 = .ok (.goto 4, 3) := by decide +kernel
theorem dX7_swears_48 : decode cX7_swears 48 = .ok (.iconst 0, 1) := by decide +kernel
theorem dX7_swears_49 : decode cX7_swears 49 = .ok (.iastore, 1) := by decide +kernel
theorem dX7_swears_50 : decode cX7_swears 50 = .ok (.aload_n 0, 1) := by decide +kernel
theorem dX7_swears_51 : decode cX7_swears 51 = .ok (.getfield 7, 3) := by decide +kernel
theorem dX7_swears_54 : decode cX7_swears 54 = .ok (.bipush 10, 2) := by decide +kernel
theorem dX7_swears_56 : decode cX7_swears 56 = .ok (.dup2, 1) := by decide +kernel
theorem dX7_swears_57 : decode cX7_swears 57 = .ok (.iaload, 1) := by decide +kernel
theorem dX7_swears_58 : decode cX7_swears 58 = .ok (.iconst 1, 1) := by decide +kernel
theorem dX7_swears_59 : decode cX7_swears 59 = .ok (.iadd, 1) := by decide +kernel
theorem dX7_swears_60 : decode cX7_swears 60 = .ok (.iastore, 1) := by decide +kernel
theorem dX7_swears_61 : decode cX7_swears 61 = .ok (.aload_n 0, 1) := by decide +kernel
theorem dX7_swears_62 : decode cX7_swears 62 = .ok (.getfield 7, 3) := by decide +kernel
theorem dX7_swears_65 : decode cX7_swears 65 = .ok (.bipush 11, 2) := by decide +kernel
theorem dX7_swears_67 : decode cX7_swears 67 = .ok (.dup2, 1) := by decide +kernel
theorem dX7_swears_68 : decode cX7_swears 68 = .ok (.iaload, 1) := by decide +kernel
theorem dX7_swears_69 : decode cX7_swears 69 = .ok (.iconst 1, 1) := by decide +kernel
theorem dX7_swears_70 : decode cX7_swears 70 = .ok (.iadd, 1) := by decide +kernel
theorem dX7_swears_71 : decode cX7_swears 71 = .ok (.iastore, 1) := by decide +kernel
theorem dX7_swears_72 : decode cX7_swears 72 = .ok (.aload_n 0, 1) := by decide +kernel
theorem dX7_swears_73 : decode cX7_swears 73 = .ok (.invokevirtual 125, 3) := by decide +kernel
theorem dX7_swears_76 : decode cX7_swears 76 = .ok (.ireturn, 1) := by decide +kernel
theorem dX7_dropOath_0 : decode cX7_dropOath 0 = .ok (.aload_n 0, 1) := by decide +kernel
theorem dX7_dropOath_1 : decode cX7_dropOath 1 = .ok (.getfield 7, 3) := by decide +kernel
theorem dX7_dropOath_4 : decode cX7_dropOath 4 = .ok (.bipush 10, 2) := by decide +kernel
theorem dX7_dropOath_6 : decode cX7_dropOath 6 = .ok (.dup2, 1) := by decide +kernel
theorem dX7_dropOath_7 : decode cX7_dropOath 7 = .ok (.iaload, 1) := by decide +kernel
theorem dX7_dropOath_8 : decode cX7_dropOath 8 = .ok (.iconst 1, 1) := by decide +kernel
theorem dX7_dropOath_9 : decode cX7_dropOath 9 = .ok (.isub, 1) := by decide +kernel
theorem dX7_dropOath_10 : decode cX7_dropOath 10 = .ok (.iastore, 1) := by decide +kernel
theorem dX7_dropOath_11 : decode cX7_dropOath 11 = .ok (.bipush 14, 2) := by decide +kernel
theorem dX7_dropOath_13 : decode cX7_dropOath 13 = .ok (.iconst 3, 1) := by decide +kernel
theorem dX7_dropOath_14 : decode cX7_dropOath 14 = .ok (.iload_n 1, 1) := by decide +kernel
theorem dX7_dropOath_15 : decode cX7_dropOath 15 = .ok (.imul, 1) := by decide +kernel
theorem dX7_dropOath_16 : decode cX7_dropOath 16 = .ok (.iadd, 1) := by decide +kernel
theorem dX7_dropOath_17 : decode cX7_dropOath 17 = .ok (.istore_n 2, 1) := by decide +kernel
theorem dX7_dropOath_18 : decode cX7_dropOath 18 = .ok (.iload_n 2, 1) := by decide +kernel
theorem dX7_dropOath_19 : decode cX7_dropOath 19 = .ok (.bipush 14, 2) := by decide +kernel
theorem dX7_dropOath_21 : decode cX7_dropOath 21 = .ok (.iconst 3, 1) := by decide +kernel
theorem dX7_dropOath_22 : decode cX7_dropOath 22 = .ok (.aload_n 0, 1) := by decide +kernel
theorem dX7_dropOath_23 : decode cX7_dropOath 23 = .ok (.getfield 7, 3) := by decide +kernel
theorem dX7_dropOath_26 : decode cX7_dropOath 26 = .ok (.bipush 10, 2) := by decide +kernel
theorem dX7_dropOath_28 : decode cX7_dropOath 28 = .ok (.iaload, 1) := by decide +kernel
theorem dX7_dropOath_29 : decode cX7_dropOath 29 = .ok (.imul, 1) := by decide +kernel
theorem dX7_dropOath_30 : decode cX7_dropOath 30 = .ok (.iadd, 1) := by decide +kernel
theorem dX7_dropOath_31 : decode cX7_dropOath 31 = .ok (.if_icmp .ge 23, 3) := by decide +kernel
theorem dX7_dropOath_34 : decode cX7_dropOath 34 = .ok (.aload_n 0, 1) := by decide +kernel
theorem dX7_dropOath_35 : decode cX7_dropOath 35 = .ok (.getfield 7, 3) := by decide +kernel
theorem dX7_dropOath_38 : decode cX7_dropOath 38 = .ok (.iload_n 2, 1) := by decide +kernel
theorem dX7_dropOath_39 : decode cX7_dropOath 39 = .ok (.aload_n 0, 1) := by decide +kernel
theorem dX7_dropOath_40 : decode cX7_dropOath 40 = .ok (.getfield 7, 3) := by decide +kernel
theorem dX7_dropOath_43 : decode cX7_dropOath 43 = .ok (.iload_n 2, 1) := by decide +kernel
theorem dX7_dropOath_44 : decode cX7_dropOath 44 = .ok (.iconst 3, 1) := by decide +kernel
theorem dX7_dropOath_45 : decode cX7_dropOath 45 = .ok (.iadd, 1) := by decide +kernel
theorem dX7_dropOath_46 : decode cX7_dropOath 46 = .ok (.iaload, 1) := by decide +kernel
theorem dX7_dropOath_47 : decode cX7_dropOath 47 = .ok (.iastore, 1) := by decide +kernel
theorem dX7_dropOath_48 : decode cX7_dropOath 48 = .ok (.iinc 2 1, 3) := by decide +kernel
theorem dX7_dropOath_51 : decode cX7_dropOath 51 = .ok (.goto (-33), 3) := by decide +kernel
theorem dX7_dropOath_54 : decode cX7_dropOath 54 = .ok (.return_, 1) := by decide +kernel
theorem dX7_holds_0 : decode cX7_holds 0 = .ok (.aload_n 0, 1) := by decide +kernel
theorem dX7_holds_1 : decode cX7_holds 1 = .ok (.iload_n 1, 1) := by decide +kernel
theorem dX7_holds_2 : decode cX7_holds 2 = .ok (.invokevirtual 105, 3) := by decide +kernel
theorem dX7_holds_5 : decode cX7_holds 5 = .ok (.aload_n 0, 1) := by decide +kernel
theorem dX7_holds_6 : decode cX7_holds 6 = .ok (.iload_n 1, 1) := by decide +kernel
theorem dX7_holds_7 : decode cX7_holds 7 = .ok (.iconst 2, 1) := by decide +kernel
theorem dX7_holds_8 : decode cX7_holds 8 = .ok (.invokevirtual 98, 3) := by decide +kernel
theorem dX7_holds_11 : decode cX7_holds 11 = .ok (.iconst 1, 1) := by decide +kernel
theorem dX7_holds_12 : decode cX7_holds 12 = .ok (.if_icmp .ne 32, 3) := by decide +kernel
theorem dX7_holds_15 : decode cX7_holds 15 = .ok (.aload_n 0, 1) := by decide +kernel
theorem dX7_holds_16 : decode cX7_holds 16 = .ok (.getfield 28, 3) := by decide +kernel
theorem dX7_holds_19 : decode cX7_holds 19 = .ok (.aload_n 0, 1) := by decide +kernel
theorem dX7_holds_20 : decode cX7_holds 20 = .ok (.iload_n 1, 1) := by decide +kernel
theorem dX7_holds_21 : decode cX7_holds 21 = .ok (.iconst 0, 1) := by decide +kernel
theorem dX7_holds_22 : decode cX7_holds 22 = .ok (.invokevirtual 98, 3) := by decide +kernel
theorem dX7_holds_25 : decode cX7_holds 25 = .ok (.iaload, 1) := by decide +kernel
theorem dX7_holds_26 : decode cX7_holds 26 = .ok (.aload_n 0, 1) := by decide +kernel
theorem dX7_holds_27 : decode cX7_holds 27 = .ok (.getfield 28, 3) := by decide +kernel
theorem dX7_holds_30 : decode cX7_holds 30 = .ok (.aload_n 0, 1) := by decide +kernel
theorem dX7_holds_31 : decode cX7_holds 31 = .ok (.iload_n 1, 1) := by decide +kernel
theorem dX7_holds_32 : decode cX7_holds 32 = .ok (.iconst 1, 1) := by decide +kernel
theorem dX7_holds_33 : decode cX7_holds 33 = .ok (.invokevirtual 98, 3) := by decide +kernel
theorem dX7_holds_36 : decode cX7_holds 36 = .ok (.iaload, 1) := by decide +kernel
theorem dX7_holds_37 : decode cX7_holds 37 = .ok (.if_icmp .eq 7, 3) := by decide +kernel
theorem dX7_holds_40 : decode cX7_holds 40 = .ok (.iconst 1, 1) := by decide +kernel
theorem dX7_holds_41 : decode cX7_holds 41 = .ok (.goto 4, 3) := by decide +kernel
theorem dX7_holds_44 : decode cX7_holds 44 = .ok (.iconst 0, 1) := by decide +kernel
theorem dX7_holds_45 : decode cX7_holds 45 = .ok (.ireturn, 1) := by decide +kernel
theorem dX7_drops_0 : decode cX7_drops 0 = .ok (.iconst 0, 1) := by decide +kernel
theorem dX7_drops_1 : decode cX7_drops 1 = .ok (.istore_n 2, 1) := by decide +kernel
theorem dX7_drops_2 : decode cX7_drops 2 = .ok (.aload_n 0, 1) := by decide +kernel
theorem dX7_drops_3 : decode cX7_drops 3 = .ok (.getfield 7, 3) := by decide +kernel
theorem dX7_drops_6 : decode cX7_drops 6 = .ok (.bipush 10, 2) := by decide +kernel
theorem dX7_drops_8 : decode cX7_drops 8 = .ok (.iaload, 1) := by decide +kernel
theorem dX7_drops_9 : decode cX7_drops 9 = .ok (.iconst 1, 1) := by decide +kernel
theorem dX7_drops_10 : decode cX7_drops 10 = .ok (.isub, 1) := by decide +kernel
theorem dX7_drops_11 : decode cX7_drops 11 = .ok (.istore_n 3, 1) := by decide +kernel
theorem dX7_drops_12 : decode cX7_drops 12 = .ok (.iload_n 3, 1) := by decide +kernel
theorem dX7_drops_13 : decode cX7_drops 13 = .ok (.ifCond .lt 37, 3) := by decide +kernel
theorem dX7_drops_16 : decode cX7_drops 16 = .ok (.aload_n 0, 1) := by decide +kernel
theorem dX7_drops_17 : decode cX7_drops 17 = .ok (.iload_n 3, 1) := by decide +kernel
theorem dX7_drops_18 : decode cX7_drops 18 = .ok (.iconst 0, 1) := by decide +kernel
theorem dX7_drops_19 : decode cX7_drops 19 = .ok (.invokevirtual 98, 3) := by decide +kernel
theorem dX7_drops_22 : decode cX7_drops 22 = .ok (.iload_n 1, 1) := by decide +kernel
theorem dX7_drops_23 : decode cX7_drops 23 = .ok (.if_icmp .eq 13, 3) := by decide +kernel
theorem dX7_drops_26 : decode cX7_drops 26 = .ok (.aload_n 0, 1) := by decide +kernel
theorem dX7_drops_27 : decode cX7_drops 27 = .ok (.iload_n 3, 1) := by decide +kernel
theorem dX7_drops_28 : decode cX7_drops 28 = .ok (.iconst 1, 1) := by decide +kernel
theorem dX7_drops_29 : decode cX7_drops 29 = .ok (.invokevirtual 98, 3) := by decide +kernel
theorem dX7_drops_32 : decode cX7_drops 32 = .ok (.iload_n 1, 1) := by decide +kernel
theorem dX7_drops_33 : decode cX7_drops 33 = .ok (.if_icmp .ne 11, 3) := by decide +kernel
theorem dX7_drops_36 : decode cX7_drops 36 = .ok (.aload_n 0, 1) := by decide +kernel
theorem dX7_drops_37 : decode cX7_drops 37 = .ok (.iload_n 3, 1) := by decide +kernel
theorem dX7_drops_38 : decode cX7_drops 38 = .ok (.invokevirtual 129, 3) := by decide +kernel
theorem dX7_drops_41 : decode cX7_drops 41 = .ok (.iinc 2 1, 3) := by decide +kernel
theorem dX7_drops_44 : decode cX7_drops 44 = .ok (.iinc 3 (-1), 3) := by decide +kernel
theorem dX7_drops_47 : decode cX7_drops 47 = .ok (.goto (-35), 3) := by decide +kernel
theorem dX7_drops_50 : decode cX7_drops 50 = .ok (.iconst 0, 1) := by decide +kernel
theorem dX7_drops_51 : decode cX7_drops 51 = .ok (.istore_n 3, 1) := by decide +kernel
theorem dX7_drops_52 : decode cX7_drops 52 = .ok (.iload_n 3, 1) := by decide +kernel
theorem dX7_drops_53 : decode cX7_drops 53 = .ok (.aload_n 0, 1) := by decide +kernel
theorem dX7_drops_54 : decode cX7_drops 54 = .ok (.getfield 7, 3) := by decide +kernel
theorem dX7_drops_57 : decode cX7_drops 57 = .ok (.bipush 10, 2) := by decide +kernel
theorem dX7_drops_59 : decode cX7_drops 59 = .ok (.iaload, 1) := by decide +kernel
theorem dX7_drops_60 : decode cX7_drops 60 = .ok (.if_icmp .ge 69, 3) := by decide +kernel
theorem dX7_drops_63 : decode cX7_drops 63 = .ok (.aload_n 0, 1) := by decide +kernel
theorem dX7_drops_64 : decode cX7_drops 64 = .ok (.getfield 7, 3) := by decide +kernel
theorem dX7_drops_67 : decode cX7_drops 67 = .ok (.bipush 14, 2) := by decide +kernel
theorem dX7_drops_69 : decode cX7_drops 69 = .ok (.iconst 3, 1) := by decide +kernel
theorem dX7_drops_70 : decode cX7_drops 70 = .ok (.iload_n 3, 1) := by decide +kernel
theorem dX7_drops_71 : decode cX7_drops 71 = .ok (.imul, 1) := by decide +kernel
theorem dX7_drops_72 : decode cX7_drops 72 = .ok (.iadd, 1) := by decide +kernel
theorem dX7_drops_73 : decode cX7_drops 73 = .ok (.dup2, 1) := by decide +kernel
theorem dX7_drops_74 : decode cX7_drops 74 = .ok (.iaload, 1) := by decide +kernel
theorem dX7_drops_75 : decode cX7_drops 75 = .ok (.aload_n 0, 1) := by decide +kernel
theorem dX7_drops_76 : decode cX7_drops 76 = .ok (.iload_n 3, 1) := by decide +kernel
theorem dX7_drops_77 : decode cX7_drops 77 = .ok (.iconst 0, 1) := by decide +kernel
theorem dX7_drops_78 : decode cX7_drops 78 = .ok (.invokevirtual 98, 3) := by decide +kernel
theorem dX7_drops_81 : decode cX7_drops 81 = .ok (.iload_n 1, 1) := by decide +kernel
theorem dX7_drops_82 : decode cX7_drops 82 = .ok (.if_icmp .le 7, 3) := by decide +kernel
theorem dX7_drops_85 : decode cX7_drops 85 = .ok (.iconst 1, 1) := by decide +kernel
theorem dX7_drops_86 : decode cX7_drops 86 = .ok (.goto 4, 3) := by decide +kernel
theorem dX7_drops_89 : decode cX7_drops 89 = .ok (.iconst 0, 1) := by decide +kernel
theorem dX7_drops_90 : decode cX7_drops 90 = .ok (.isub, 1) := by decide +kernel
theorem dX7_drops_91 : decode cX7_drops 91 = .ok (.iastore, 1) := by decide +kernel
theorem dX7_drops_92 : decode cX7_drops 92 = .ok (.aload_n 0, 1) := by decide +kernel
theorem dX7_drops_93 : decode cX7_drops 93 = .ok (.getfield 7, 3) := by decide +kernel
theorem dX7_drops_96 : decode cX7_drops 96 = .ok (.bipush 14, 2) := by decide +kernel
theorem dX7_drops_98 : decode cX7_drops 98 = .ok (.iconst 3, 1) := by decide +kernel
theorem dX7_drops_99 : decode cX7_drops 99 = .ok (.iload_n 3, 1) := by decide +kernel
theorem dX7_drops_100 : decode cX7_drops 100 = .ok (.imul, 1) := by decide +kernel
theorem dX7_drops_101 : decode cX7_drops 101 = .ok (.iadd, 1) := by decide +kernel
theorem dX7_drops_102 : decode cX7_drops 102 = .ok (.iconst 1, 1) := by decide +kernel
theorem dX7_drops_103 : decode cX7_drops 103 = .ok (.iadd, 1) := by decide +kernel
theorem dX7_drops_104 : decode cX7_drops 104 = .ok (.dup2, 1) := by decide +kernel
theorem dX7_drops_105 : decode cX7_drops 105 = .ok (.iaload, 1) := by decide +kernel
theorem dX7_drops_106 : decode cX7_drops 106 = .ok (.aload_n 0, 1) := by decide +kernel
theorem dX7_drops_107 : decode cX7_drops 107 = .ok (.iload_n 3, 1) := by decide +kernel
theorem dX7_drops_108 : decode cX7_drops 108 = .ok (.iconst 1, 1) := by decide +kernel
theorem dX7_drops_109 : decode cX7_drops 109 = .ok (.invokevirtual 98, 3) := by decide +kernel
theorem dX7_drops_112 : decode cX7_drops 112 = .ok (.iload_n 1, 1) := by decide +kernel
theorem dX7_drops_113 : decode cX7_drops 113 = .ok (.if_icmp .le 7, 3) := by decide +kernel
theorem dX7_drops_116 : decode cX7_drops 116 = .ok (.iconst 1, 1) := by decide +kernel
theorem dX7_drops_117 : decode cX7_drops 117 = .ok (.goto 4, 3) := by decide +kernel
theorem dX7_drops_120 : decode cX7_drops 120 = .ok (.iconst 0, 1) := by decide +kernel
theorem dX7_drops_121 : decode cX7_drops 121 = .ok (.isub, 1) := by decide +kernel
theorem dX7_drops_122 : decode cX7_drops 122 = .ok (.iastore, 1) := by decide +kernel
theorem dX7_drops_123 : decode cX7_drops 123 = .ok (.iinc 3 1, 3) := by decide +kernel
theorem dX7_drops_126 : decode cX7_drops 126 = .ok (.goto (-74), 3) := by decide +kernel
theorem dX7_drops_129 : decode cX7_drops 129 = .ok (.aload_n 0, 1) := by decide +kernel
theorem dX7_drops_130 : decode cX7_drops 130 = .ok (.getfield 7, 3) := by decide +kernel
theorem dX7_drops_133 : decode cX7_drops 133 = .ok (.bipush 9, 2) := by decide +kernel
theorem dX7_drops_135 : decode cX7_drops 135 = .ok (.dup2, 1) := by decide +kernel
theorem dX7_drops_136 : decode cX7_drops 136 = .ok (.iaload, 1) := by decide +kernel
theorem dX7_drops_137 : decode cX7_drops 137 = .ok (.iconst 1, 1) := by decide +kernel
theorem dX7_drops_138 : decode cX7_drops 138 = .ok (.isub, 1) := by decide +kernel
theorem dX7_drops_139 : decode cX7_drops 139 = .ok (.iastore, 1) := by decide +kernel
theorem dX7_drops_140 : decode cX7_drops 140 = .ok (.bipush 98, 2) := by decide +kernel
theorem dX7_drops_142 : decode cX7_drops 142 = .ok (.bipush 42, 2) := by decide +kernel
theorem dX7_drops_144 : decode cX7_drops 144 = .ok (.iload_n 1, 1) := by decide +kernel
theorem dX7_drops_145 : decode cX7_drops 145 = .ok (.imul, 1) := by decide +kernel
theorem dX7_drops_146 : decode cX7_drops 146 = .ok (.iadd, 1) := by decide +kernel
theorem dX7_drops_147 : decode cX7_drops 147 = .ok (.istore_n 3, 1) := by decide +kernel
theorem dX7_drops_148 : decode cX7_drops 148 = .ok (.iload_n 3, 1) := by decide +kernel
theorem dX7_drops_149 : decode cX7_drops 149 = .ok (.bipush 98, 2) := by decide +kernel
theorem dX7_drops_151 : decode cX7_drops 151 = .ok (.bipush 42, 2) := by decide +kernel
theorem dX7_drops_153 : decode cX7_drops 153 = .ok (.aload_n 0, 1) := by decide +kernel
theorem dX7_drops_154 : decode cX7_drops 154 = .ok (.getfield 7, 3) := by decide +kernel
theorem dX7_drops_157 : decode cX7_drops 157 = .ok (.bipush 9, 2) := by decide +kernel
theorem dX7_drops_159 : decode cX7_drops 159 = .ok (.iaload, 1) := by decide +kernel
theorem dX7_drops_160 : decode cX7_drops 160 = .ok (.imul, 1) := by decide +kernel
theorem dX7_drops_161 : decode cX7_drops 161 = .ok (.iadd, 1) := by decide +kernel
theorem dX7_drops_162 : decode cX7_drops 162 = .ok (.if_icmp .ge 24, 3) := by decide +kernel
theorem dX7_drops_165 : decode cX7_drops 165 = .ok (.aload_n 0, 1) := by decide +kernel
theorem dX7_drops_166 : decode cX7_drops 166 = .ok (.getfield 7, 3) := by decide +kernel
theorem dX7_drops_169 : decode cX7_drops 169 = .ok (.iload_n 3, 1) := by decide +kernel
theorem dX7_drops_170 : decode cX7_drops 170 = .ok (.aload_n 0, 1) := by decide +kernel
theorem dX7_drops_171 : decode cX7_drops 171 = .ok (.getfield 7, 3) := by decide +kernel
theorem dX7_drops_174 : decode cX7_drops 174 = .ok (.iload_n 3, 1) := by decide +kernel
theorem dX7_drops_175 : decode cX7_drops 175 = .ok (.bipush 42, 2) := by decide +kernel
theorem dX7_drops_177 : decode cX7_drops 177 = .ok (.iadd, 1) := by decide +kernel
theorem dX7_drops_178 : decode cX7_drops 178 = .ok (.iaload, 1) := by decide +kernel
theorem dX7_drops_179 : decode cX7_drops 179 = .ok (.iastore, 1) := by decide +kernel
theorem dX7_drops_180 : decode cX7_drops 180 = .ok (.iinc 3 1, 3) := by decide +kernel
theorem dX7_drops_183 : decode cX7_drops 183 = .ok (.goto (-35), 3) := by decide +kernel
theorem dX7_drops_186 : decode cX7_drops 186 = .ok (.iload_n 2, 1) := by decide +kernel
theorem dX7_drops_187 : decode cX7_drops 187 = .ok (.ireturn, 1) := by decide +kernel
theorem dX7_passes_0 : decode cX7_passes 0 = .ok (.iconst (-1), 1) := by decide +kernel
theorem dX7_passes_1 : decode cX7_passes 1 = .ok (.istore_n 2, 1) := by decide +kernel
theorem dX7_passes_2 : decode cX7_passes 2 = .ok (.iconst 0, 1) := by decide +kernel
theorem dX7_passes_3 : decode cX7_passes 3 = .ok (.istore_n 3, 1) := by decide +kernel
theorem dX7_passes_4 : decode cX7_passes 4 = .ok (.iload_n 3, 1) := by decide +kernel
theorem dX7_passes_5 : decode cX7_passes 5 = .ok (.aload_n 0, 1) := by decide +kernel
theorem dX7_passes_6 : decode cX7_passes 6 = .ok (.getfield 7, 3) := by decide +kernel
theorem dX7_passes_9 : decode cX7_passes 9 = .ok (.bipush 9, 2) := by decide +kernel
theorem dX7_passes_11 : decode cX7_passes 11 = .ok (.iaload, 1) := by decide +kernel
theorem dX7_passes_12 : decode cX7_passes 12 = .ok (.if_icmp .ge 64, 3) := by decide +kernel
theorem dX7_passes_15 : decode cX7_passes 15 = .ok (.aload_n 0, 1) := by decide +kernel
theorem dX7_passes_16 : decode cX7_passes 16 = .ok (.iload_n 3, 1) := by decide +kernel
theorem dX7_passes_17 : decode cX7_passes 17 = .ok (.iconst 0, 1) := by decide +kernel
theorem dX7_passes_18 : decode cX7_passes 18 = .ok (.invokevirtual 39, 3) := by decide +kernel
theorem dX7_passes_21 : decode cX7_passes 21 = .ok (.iload_n 1, 1) := by decide +kernel
theorem dX7_passes_22 : decode cX7_passes 22 = .ok (.iadd, 1) := by decide +kernel
theorem dX7_passes_23 : decode cX7_passes 23 = .ok (.istore 4, 2) := by decide +kernel
theorem dX7_passes_25 : decode cX7_passes 25 = .ok (.iload 4, 2) := by decide +kernel
theorem dX7_passes_27 : decode cX7_passes 27 = .ok (.bipush 99, 2) := by decide +kernel
theorem dX7_passes_29 : decode cX7_passes 29 = .ok (.if_icmp .le 8, 3) := by decide +kernel
theorem dX7_passes_32 : decode cX7_passes 32 = .ok (.bipush 99, 2) := by decide +kernel
theorem dX7_passes_34 : decode cX7_passes 34 = .ok (.goto 5, 3) := by decide +kernel
theorem dX7_passes_37 : decode cX7_passes 37 = .ok (.iload 4, 2) := by decide +kernel
theorem dX7_passes_39 : decode cX7_passes 39 = .ok (.istore 4, 2) := by decide +kernel
theorem dX7_passes_41 : decode cX7_passes 41 = .ok (.aload_n 0, 1) := by decide +kernel
theorem dX7_passes_42 : decode cX7_passes 42 = .ok (.getfield 7, 3) := by decide +kernel
theorem dX7_passes_45 : decode cX7_passes 45 = .ok (.bipush 98, 2) := by decide +kernel
theorem dX7_passes_47 : decode cX7_passes 47 = .ok (.bipush 42, 2) := by decide +kernel
theorem dX7_passes_49 : decode cX7_passes 49 = .ok (.iload_n 3, 1) := by decide +kernel
theorem dX7_passes_50 : decode cX7_passes 50 = .ok (.imul, 1) := by decide +kernel
theorem dX7_passes_51 : decode cX7_passes 51 = .ok (.iadd, 1) := by decide +kernel
theorem dX7_passes_52 : decode cX7_passes 52 = .ok (.iconst 0, 1) := by decide +kernel
theorem dX7_passes_53 : decode cX7_passes 53 = .ok (.iadd, 1) := by decide +kernel
theorem dX7_passes_54 : decode cX7_passes 54 = .ok (.iload 4, 2) := by decide +kernel
theorem dX7_passes_56 : decode cX7_passes 56 = .ok (.iastore, 1) := by decide +kernel
theorem dX7_passes_57 : decode cX7_passes 57 = .ok (.iload 4, 2) := by decide +kernel
theorem dX7_passes_59 : decode cX7_passes 59 = .ok (.iload_n 2, 1) := by decide +kernel
theorem dX7_passes_60 : decode cX7_passes 60 = .ok (.if_icmp .le 8, 3) := by decide +kernel
theorem dX7_passes_63 : decode cX7_passes 63 = .ok (.iload 4, 2) := by decide +kernel
theorem dX7_passes_65 : decode cX7_passes 65 = .ok (.goto 4, 3) := by decide +kernel
theorem dX7_passes_68 : decode cX7_passes 68 = .ok (.iload_n 2, 1) := by decide +kernel
theorem dX7_passes_69 : decode cX7_passes 69 = .ok (.istore_n 2, 1) := by decide +kernel
theorem dX7_passes_70 : decode cX7_passes 70 = .ok (.iinc 3 1, 3) := by decide +kernel
theorem dX7_passes_73 : decode cX7_passes 73 = .ok (.goto (-69), 3) := by decide +kernel
theorem dX7_passes_76 : decode cX7_passes 76 = .ok (.iload_n 2, 1) := by decide +kernel
theorem dX7_passes_77 : decode cX7_passes 77 = .ok (.ireturn, 1) := by decide +kernel
theorem dX7_lay_0 : decode cX7_lay 0 = .ok (.aload_n 0, 1) := by decide +kernel
theorem dX7_lay_1 : decode cX7_lay 1 = .ok (.iconst 0, 1) := by decide +kernel
theorem dX7_lay_2 : decode cX7_lay 2 = .ok (.putfield 31, 3) := by decide +kernel
theorem dX7_lay_5 : decode cX7_lay 5 = .ok (.aload_n 0, 1) := by decide +kernel
theorem dX7_lay_6 : decode cX7_lay 6 = .ok (.invokevirtual 132, 3) := by decide +kernel
theorem dX7_lay_9 : decode cX7_lay 9 = .ok (.ifCond .eq 13, 3) := by decide +kernel
theorem dX7_lay_12 : decode cX7_lay 12 = .ok (.iload_n 1, 1) := by decide +kernel
theorem dX7_lay_13 : decode cX7_lay 13 = .ok (.iconst 0, 1) := by decide +kernel
theorem dX7_lay_14 : decode cX7_lay 14 = .ok (.bipush 99, 2) := by decide +kernel
theorem dX7_lay_16 : decode cX7_lay 16 = .ok (.invokestatic 35, 3) := by decide +kernel
theorem dX7_lay_19 : decode cX7_lay 19 = .ok (.ifCond .ne 9, 3) := by decide +kernel
theorem dX7_lay_22 : decode cX7_lay 22 = .ok (.aload_n 0, 1) := by decide +kernel
theorem dX7_lay_23 : decode cX7_lay 23 = .ok (.iconst 1, 1) := by decide +kernel
theorem dX7_lay_24 : decode cX7_lay 24 = .ok (.invokevirtual 46, 3) := by decide +kernel
theorem dX7_lay_27 : decode cX7_lay 27 = .ok (.ireturn, 1) := by decide +kernel
theorem dX7_lay_28 : decode cX7_lay 28 = .ok (.aload_n 0, 1) := by decide +kernel
theorem dX7_lay_29 : decode cX7_lay 29 = .ok (.getfield 7, 3) := by decide +kernel
theorem dX7_lay_32 : decode cX7_lay 32 = .ok (.bipush 9, 2) := by decide +kernel
theorem dX7_lay_34 : decode cX7_lay 34 = .ok (.iaload, 1) := by decide +kernel
theorem dX7_lay_35 : decode cX7_lay 35 = .ok (.bipush 8, 2) := by decide +kernel
theorem dX7_lay_37 : decode cX7_lay 37 = .ok (.if_icmp .ne 9, 3) := by decide +kernel
theorem dX7_lay_40 : decode cX7_lay 40 = .ok (.aload_n 0, 1) := by decide +kernel
theorem dX7_lay_41 : decode cX7_lay 41 = .ok (.iconst 2, 1) := by decide +kernel
theorem dX7_lay_42 : decode cX7_lay 42 = .ok (.invokevirtual 46, 3) := by decide +kernel
theorem dX7_lay_45 : decode cX7_lay 45 = .ok (.ireturn, 1) := by decide +kernel
theorem dX7_lay_46 : decode cX7_lay 46 = .ok (.aload_n 0, 1) := by decide +kernel
theorem dX7_lay_47 : decode cX7_lay 47 = .ok (.invokevirtual 54, 3) := by decide +kernel
theorem dX7_lay_50 : decode cX7_lay 50 = .ok (.bipush 98, 2) := by decide +kernel
theorem dX7_lay_52 : decode cX7_lay 52 = .ok (.bipush 42, 2) := by decide +kernel
theorem dX7_lay_54 : decode cX7_lay 54 = .ok (.aload_n 0, 1) := by decide +kernel
theorem dX7_lay_55 : decode cX7_lay 55 = .ok (.getfield 7, 3) := by decide +kernel
theorem dX7_lay_58 : decode cX7_lay 58 = .ok (.bipush 9, 2) := by decide +kernel
theorem dX7_lay_60 : decode cX7_lay 60 = .ok (.iaload, 1) := by decide +kernel
theorem dX7_lay_61 : decode cX7_lay 61 = .ok (.imul, 1) := by decide +kernel
theorem dX7_lay_62 : decode cX7_lay 62 = .ok (.iadd, 1) := by decide +kernel
theorem dX7_lay_63 : decode cX7_lay 63 = .ok (.istore_n 2, 1) := by decide +kernel
theorem dX7_lay_64 : decode cX7_lay 64 = .ok (.aload_n 0, 1) := by decide +kernel
theorem dX7_lay_65 : decode cX7_lay 65 = .ok (.getfield 7, 3) := by decide +kernel
theorem dX7_lay_68 : decode cX7_lay 68 = .ok (.iload_n 2, 1) := by decide +kernel
theorem dX7_lay_69 : decode cX7_lay 69 = .ok (.iconst 0, 1) := by decide +kernel
theorem dX7_lay_70 : decode cX7_lay 70 = .ok (.iadd, 1) := by decide +kernel
theorem dX7_lay_71 : decode cX7_lay 71 = .ok (.iload_n 1, 1) := by decide +kernel
theorem dX7_lay_72 : decode cX7_lay 72 = .ok (.iastore, 1) := by decide +kernel
theorem dX7_lay_73 : decode cX7_lay 73 = .ok (.aload_n 0, 1) := by decide +kernel
theorem dX7_lay_74 : decode cX7_lay 74 = .ok (.getfield 7, 3) := by decide +kernel
theorem dX7_lay_77 : decode cX7_lay 77 = .ok (.iload_n 2, 1) := by decide +kernel
theorem dX7_lay_78 : decode cX7_lay 78 = .ok (.iconst 1, 1) := by decide +kernel
theorem dX7_lay_79 : decode cX7_lay 79 = .ok (.iadd, 1) := by decide +kernel
theorem dX7_lay_80 : decode cX7_lay 80 = .ok (.aload_n 0, 1) := by decide +kernel
theorem dX7_lay_81 : decode cX7_lay 81 = .ok (.getfield 136, 3) := by decide +kernel
theorem dX7_lay_84 : decode cX7_lay 84 = .ok (.iastore, 1) := by decide +kernel
theorem dX7_lay_85 : decode cX7_lay 85 = .ok (.iconst 0, 1) := by decide +kernel
theorem dX7_lay_86 : decode cX7_lay 86 = .ok (.istore_n 3, 1) := by decide +kernel
theorem dX7_lay_87 : decode cX7_lay 87 = .ok (.iload_n 3, 1) := by decide +kernel
theorem dX7_lay_88 : decode cX7_lay 88 = .ok (.bipush 40, 2) := by decide +kernel
theorem dX7_lay_90 : decode cX7_lay 90 = .ok (.if_icmp .ge 39, 3) := by decide +kernel
theorem dX7_lay_93 : decode cX7_lay 93 = .ok (.aload_n 0, 1) := by decide +kernel
theorem dX7_lay_94 : decode cX7_lay 94 = .ok (.getfield 7, 3) := by decide +kernel
theorem dX7_lay_97 : decode cX7_lay 97 = .ok (.iload_n 2, 1) := by decide +kernel
theorem dX7_lay_98 : decode cX7_lay 98 = .ok (.iconst 2, 1) := by decide +kernel
theorem dX7_lay_99 : decode cX7_lay 99 = .ok (.iadd, 1) := by decide +kernel
theorem dX7_lay_100 : decode cX7_lay 100 = .ok (.iload_n 3, 1) := by decide +kernel
theorem dX7_lay_101 : decode cX7_lay 101 = .ok (.iadd, 1) := by decide +kernel
theorem dX7_lay_102 : decode cX7_lay 102 = .ok (.iload_n 3, 1) := by decide +kernel
theorem dX7_lay_103 : decode cX7_lay 103 = .ok (.iconst 5, 1) := by decide +kernel
theorem dX7_lay_104 : decode cX7_lay 104 = .ok (.aload_n 0, 1) := by decide +kernel
theorem dX7_lay_105 : decode cX7_lay 105 = .ok (.getfield 136, 3) := by decide +kernel
theorem dX7_lay_108 : decode cX7_lay 108 = .ok (.imul, 1) := by decide +kernel
theorem dX7_lay_109 : decode cX7_lay 109 = .ok (.if_icmp .ge 12, 3) := by decide +kernel
theorem dX7_lay_112 : decode cX7_lay 112 = .ok (.aload_n 0, 1) := by decide +kernel
theorem dX7_lay_113 : decode cX7_lay 113 = .ok (.getfield 25, 3) := by decide +kernel
theorem dX7_lay_116 : decode cX7_lay 116 = .ok (.iload_n 3, 1) := by decide +kernel
theorem dX7_lay_117 : decode cX7_lay 117 = .ok (.iaload, 1) := by decide +kernel
theorem dX7_lay_118 : decode cX7_lay 118 = .ok (.goto 4, 3) := by decide +kernel
theorem dX7_lay_121 : decode cX7_lay 121 = .ok (.iconst 0, 1) := by decide +kernel
theorem dX7_lay_122 : decode cX7_lay 122 = .ok (.iastore, 1) := by decide +kernel
theorem dX7_lay_123 : decode cX7_lay 123 = .ok (.iinc 3 1, 3) := by decide +kernel
theorem dX7_lay_126 : decode cX7_lay 126 = .ok (.goto (-39), 3) := by decide +kernel
theorem dX7_lay_129 : decode cX7_lay 129 = .ok (.aload_n 0, 1) := by decide +kernel
theorem dX7_lay_130 : decode cX7_lay 130 = .ok (.getfield 7, 3) := by decide +kernel
theorem dX7_lay_133 : decode cX7_lay 133 = .ok (.bipush 9, 2) := by decide +kernel
theorem dX7_lay_135 : decode cX7_lay 135 = .ok (.dup2, 1) := by decide +kernel
theorem dX7_lay_136 : decode cX7_lay 136 = .ok (.iaload, 1) := by decide +kernel
theorem dX7_lay_137 : decode cX7_lay 137 = .ok (.iconst 1, 1) := by decide +kernel
theorem dX7_lay_138 : decode cX7_lay 138 = .ok (.iadd, 1) := by decide +kernel
theorem dX7_lay_139 : decode cX7_lay 139 = .ok (.iastore, 1) := by decide +kernel
theorem dX7_lay_140 : decode cX7_lay 140 = .ok (.aload_n 0, 1) := by decide +kernel
theorem dX7_lay_141 : decode cX7_lay 141 = .ok (.iconst 0, 1) := by decide +kernel
theorem dX7_lay_142 : decode cX7_lay 142 = .ok (.putfield 139, 3) := by decide +kernel
theorem dX7_lay_145 : decode cX7_lay 145 = .ok (.aload_n 0, 1) := by decide +kernel
theorem dX7_lay_146 : decode cX7_lay 146 = .ok (.getfield 7, 3) := by decide +kernel
theorem dX7_lay_149 : decode cX7_lay 149 = .ok (.bipush 9, 2) := by decide +kernel
theorem dX7_lay_151 : decode cX7_lay 151 = .ok (.iaload, 1) := by decide +kernel
theorem dX7_lay_152 : decode cX7_lay 152 = .ok (.iconst 1, 1) := by decide +kernel
theorem dX7_lay_153 : decode cX7_lay 153 = .ok (.isub, 1) := by decide +kernel
theorem dX7_lay_154 : decode cX7_lay 154 = .ok (.ireturn, 1) := by decide +kernel
theorem dX7_drop_0 : decode cX7_drop 0 = .ok (.aload_n 0, 1) := by decide +kernel
theorem dX7_drop_1 : decode cX7_drop 1 = .ok (.iconst 0, 1) := by decide +kernel
theorem dX7_drop_2 : decode cX7_drop 2 = .ok (.putfield 31, 3) := by decide +kernel
theorem dX7_drop_5 : decode cX7_drop 5 = .ok (.aload_n 0, 1) := by decide +kernel
theorem dX7_drop_6 : decode cX7_drop 6 = .ok (.iload_n 1, 1) := by decide +kernel
theorem dX7_drop_7 : decode cX7_drop 7 = .ok (.invokevirtual 142, 3) := by decide +kernel
theorem dX7_drop_10 : decode cX7_drop 10 = .ok (.ifCond .ne 9, 3) := by decide +kernel
theorem dX7_drop_13 : decode cX7_drop 13 = .ok (.aload_n 0, 1) := by decide +kernel
theorem dX7_drop_14 : decode cX7_drop 14 = .ok (.iconst 1, 1) := by decide +kernel
theorem dX7_drop_15 : decode cX7_drop 15 = .ok (.invokevirtual 46, 3) := by decide +kernel
theorem dX7_drop_18 : decode cX7_drop 18 = .ok (.ireturn, 1) := by decide +kernel
theorem dX7_drop_19 : decode cX7_drop 19 = .ok (.aload_n 0, 1) := by decide +kernel
theorem dX7_drop_20 : decode cX7_drop 20 = .ok (.invokevirtual 54, 3) := by decide +kernel
theorem dX7_drop_23 : decode cX7_drop 23 = .ok (.aload_n 0, 1) := by decide +kernel
theorem dX7_drop_24 : decode cX7_drop 24 = .ok (.iload_n 1, 1) := by decide +kernel
theorem dX7_drop_25 : decode cX7_drop 25 = .ok (.invokevirtual 145, 3) := by decide +kernel
theorem dX7_drop_28 : decode cX7_drop 28 = .ok (.ireturn, 1) := by decide +kernel
theorem dX7_pass_0 : decode cX7_pass 0 = .ok (.aload_n 0, 1) := by decide +kernel
theorem dX7_pass_1 : decode cX7_pass 1 = .ok (.iconst 0, 1) := by decide +kernel
theorem dX7_pass_2 : decode cX7_pass 2 = .ok (.putfield 31, 3) := by decide +kernel
theorem dX7_pass_5 : decode cX7_pass 5 = .ok (.iload_n 1, 1) := by decide +kernel
theorem dX7_pass_6 : decode cX7_pass 6 = .ok (.iconst 1, 1) := by decide +kernel
theorem dX7_pass_7 : decode cX7_pass 7 = .ok (.bipush 99, 2) := by decide +kernel
theorem dX7_pass_9 : decode cX7_pass 9 = .ok (.invokestatic 35, 3) := by decide +kernel
theorem dX7_pass_12 : decode cX7_pass 12 = .ok (.ifCond .ne 9, 3) := by decide +kernel
theorem dX7_pass_15 : decode cX7_pass 15 = .ok (.aload_n 0, 1) := by decide +kernel
theorem dX7_pass_16 : decode cX7_pass 16 = .ok (.iconst 1, 1) := by decide +kernel
theorem dX7_pass_17 : decode cX7_pass 17 = .ok (.invokevirtual 46, 3) := by decide +kernel
theorem dX7_pass_20 : decode cX7_pass 20 = .ok (.ireturn, 1) := by decide +kernel
theorem dX7_pass_21 : decode cX7_pass 21 = .ok (.aload_n 0, 1) := by decide +kernel
theorem dX7_pass_22 : decode cX7_pass 22 = .ok (.invokevirtual 54, 3) := by decide +kernel
theorem dX7_pass_25 : decode cX7_pass 25 = .ok (.aload_n 0, 1) := by decide +kernel
theorem dX7_pass_26 : decode cX7_pass 26 = .ok (.iload_n 1, 1) := by decide +kernel
theorem dX7_pass_27 : decode cX7_pass 27 = .ok (.invokevirtual 148, 3) := by decide +kernel
theorem dX7_pass_30 : decode cX7_pass 30 = .ok (.ireturn, 1) := by decide +kernel
theorem dX7_mostOf_0 : decode cX7_mostOf 0 = .ok (.iload_n 0, 1) := by decide +kernel
theorem dX7_mostOf_1 : decode cX7_mostOf 1 = .ok (.bipush 6, 2) := by decide +kernel
theorem dX7_mostOf_3 : decode cX7_mostOf 3 = .ok (.if_icmp .ge 8, 3) := by decide +kernel
theorem dX7_mostOf_6 : decode cX7_mostOf 6 = .ok (.bipush 50, 2) := by decide +kernel
theorem dX7_mostOf_8 : decode cX7_mostOf 8 = .ok (.goto 27, 3) := by decide +kernel
theorem dX7_mostOf_11 : decode cX7_mostOf 11 = .ok (.iload_n 0, 1) := by decide +kernel
theorem dX7_mostOf_12 : decode cX7_mostOf 12 = .ok (.bipush 6, 2) := by decide +kernel
theorem dX7_mostOf_14 : decode cX7_mostOf 14 = .ok (.if_icmp .ne 8, 3) := by decide +kernel
theorem dX7_mostOf_17 : decode cX7_mostOf 17 = .ok (.bipush 99, 2) := by decide +kernel
theorem dX7_mostOf_19 : decode cX7_mostOf 19 = .ok (.goto 16, 3) := by decide +kernel
theorem dX7_mostOf_22 : decode cX7_mostOf 22 = .ok (.iload_n 0, 1) := by decide +kernel
theorem dX7_mostOf_23 : decode cX7_mostOf 23 = .ok (.bipush 7, 2) := by decide +kernel
theorem dX7_mostOf_25 : decode cX7_mostOf 25 = .ok (.if_icmp .ne 8, 3) := by decide +kernel
theorem dX7_mostOf_28 : decode cX7_mostOf 28 = .ok (.bipush 9, 2) := by decide +kernel
theorem dX7_mostOf_30 : decode cX7_mostOf 30 = .ok (.goto 5, 3) := by decide +kernel
theorem dX7_mostOf_33 : decode cX7_mostOf 33 = .ok (.bipush 6, 2) := by decide +kernel
theorem dX7_mostOf_35 : decode cX7_mostOf 35 = .ok (.ireturn, 1) := by decide +kernel
theorem dX7_set_0 : decode cX7_set 0 = .ok (.aload_n 0, 1) := by decide +kernel
theorem dX7_set_1 : decode cX7_set 1 = .ok (.iconst 0, 1) := by decide +kernel
theorem dX7_set_2 : decode cX7_set 2 = .ok (.putfield 31, 3) := by decide +kernel
theorem dX7_set_5 : decode cX7_set 5 = .ok (.iload_n 1, 1) := by decide +kernel
theorem dX7_set_6 : decode cX7_set 6 = .ok (.iconst 0, 1) := by decide +kernel
theorem dX7_set_7 : decode cX7_set 7 = .ok (.bipush 8, 2) := by decide +kernel
theorem dX7_set_9 : decode cX7_set 9 = .ok (.invokestatic 35, 3) := by decide +kernel
theorem dX7_set_12 : decode cX7_set 12 = .ok (.ifCond .ne 9, 3) := by decide +kernel
theorem dX7_set_15 : decode cX7_set 15 = .ok (.aload_n 0, 1) := by decide +kernel
theorem dX7_set_16 : decode cX7_set 16 = .ok (.iconst 1, 1) := by decide +kernel
theorem dX7_set_17 : decode cX7_set 17 = .ok (.invokevirtual 46, 3) := by decide +kernel
theorem dX7_set_20 : decode cX7_set 20 = .ok (.ireturn, 1) := by decide +kernel
theorem dX7_set_21 : decode cX7_set 21 = .ok (.iload_n 2, 1) := by decide +kernel
theorem dX7_set_22 : decode cX7_set 22 = .ok (.iconst 0, 1) := by decide +kernel
theorem dX7_set_23 : decode cX7_set 23 = .ok (.iload_n 1, 1) := by decide +kernel
theorem dX7_set_24 : decode cX7_set 24 = .ok (.invokestatic 151, 3) := by decide +kernel
theorem dX7_set_27 : decode cX7_set 27 = .ok (.invokestatic 35, 3) := by decide +kernel
theorem dX7_set_30 : decode cX7_set 30 = .ok (.ifCond .ne 9, 3) := by decide +kernel
theorem dX7_set_33 : decode cX7_set 33 = .ok (.aload_n 0, 1) := by decide +kernel
theorem dX7_set_34 : decode cX7_set 34 = .ok (.iconst 2, 1) := by decide +kernel
theorem dX7_set_35 : decode cX7_set 35 = .ok (.invokevirtual 46, 3) := by decide +kernel
theorem dX7_set_38 : decode cX7_set 38 = .ok (.ireturn, 1) := by decide +kernel
theorem dX7_set_39 : decode cX7_set 39 = .ok (.aload_n 0, 1) := by decide +kernel
theorem dX7_set_40 : decode cX7_set 40 = .ok (.invokevirtual 54, 3) := by decide +kernel
theorem dX7_set_43 : decode cX7_set 43 = .ok (.aload_n 0, 1) := by decide +kernel
theorem dX7_set_44 : decode cX7_set 44 = .ok (.getfield 7, 3) := by decide +kernel
theorem dX7_set_47 : decode cX7_set 47 = .ok (.iconst 0, 1) := by decide +kernel
theorem dX7_set_48 : decode cX7_set 48 = .ok (.iload_n 1, 1) := by decide +kernel
theorem dX7_set_49 : decode cX7_set 49 = .ok (.iadd, 1) := by decide +kernel
theorem dX7_set_50 : decode cX7_set 50 = .ok (.iaload, 1) := by decide +kernel
theorem dX7_set_51 : decode cX7_set 51 = .ok (.istore_n 3, 1) := by decide +kernel
theorem dX7_set_52 : decode cX7_set 52 = .ok (.aload_n 0, 1) := by decide +kernel
theorem dX7_set_53 : decode cX7_set 53 = .ok (.getfield 7, 3) := by decide +kernel
theorem dX7_set_56 : decode cX7_set 56 = .ok (.iconst 0, 1) := by decide +kernel
theorem dX7_set_57 : decode cX7_set 57 = .ok (.iload_n 1, 1) := by decide +kernel
theorem dX7_set_58 : decode cX7_set 58 = .ok (.iadd, 1) := by decide +kernel
theorem dX7_set_59 : decode cX7_set 59 = .ok (.iload_n 2, 1) := by decide +kernel
theorem dX7_set_60 : decode cX7_set 60 = .ok (.iastore, 1) := by decide +kernel
theorem dX7_set_61 : decode cX7_set 61 = .ok (.iload_n 3, 1) := by decide +kernel
theorem dX7_set_62 : decode cX7_set 62 = .ok (.ireturn, 1) := by decide +kernel
theorem dX7_swear_0 : decode cX7_swear 0 = .ok (.aload_n 0, 1) := by decide +kernel
theorem dX7_swear_1 : decode cX7_swear 1 = .ok (.iconst 0, 1) := by decide +kernel
theorem dX7_swear_2 : decode cX7_swear 2 = .ok (.putfield 31, 3) := by decide +kernel
theorem dX7_swear_5 : decode cX7_swear 5 = .ok (.aload_n 0, 1) := by decide +kernel
theorem dX7_swear_6 : decode cX7_swear 6 = .ok (.iload_n 1, 1) := by decide +kernel
theorem dX7_swear_7 : decode cX7_swear 7 = .ok (.invokevirtual 142, 3) := by decide +kernel
theorem dX7_swear_10 : decode cX7_swear 10 = .ok (.ifCond .eq 11, 3) := by decide +kernel
theorem dX7_swear_13 : decode cX7_swear 13 = .ok (.aload_n 0, 1) := by decide +kernel
theorem dX7_swear_14 : decode cX7_swear 14 = .ok (.iload_n 2, 1) := by decide +kernel
theorem dX7_swear_15 : decode cX7_swear 15 = .ok (.invokevirtual 142, 3) := by decide +kernel
theorem dX7_swear_18 : decode cX7_swear 18 = .ok (.ifCond .ne 9, 3) := by decide +kernel
theorem dX7_swear_21 : decode cX7_swear 21 = .ok (.aload_n 0, 1) := by decide +kernel
theorem dX7_swear_22 : decode cX7_swear 22 = .ok (.iconst 1, 1) := by decide +kernel
theorem dX7_swear_23 : decode cX7_swear 23 = .ok (.invokevirtual 46, 3) := by decide +kernel
theorem dX7_swear_26 : decode cX7_swear 26 = .ok (.ireturn, 1) := by decide +kernel
theorem dX7_swear_27 : decode cX7_swear 27 = .ok (.aload_n 0, 1) := by decide +kernel
theorem dX7_swear_28 : decode cX7_swear 28 = .ok (.iload_n 1, 1) := by decide +kernel
theorem dX7_swear_29 : decode cX7_swear 29 = .ok (.iload_n 2, 1) := by decide +kernel
theorem dX7_swear_30 : decode cX7_swear 30 = .ok (.iload_n 3, 1) := by decide +kernel
theorem dX7_swear_31 : decode cX7_swear 31 = .ok (.invokevirtual 154, 3) := by decide +kernel
theorem dX7_swear_34 : decode cX7_swear 34 = .ok (.ifCond .eq 9, 3) := by decide +kernel
theorem dX7_swear_37 : decode cX7_swear 37 = .ok (.aload_n 0, 1) := by decide +kernel
theorem dX7_swear_38 : decode cX7_swear 38 = .ok (.iconst 2, 1) := by decide +kernel
theorem dX7_swear_39 : decode cX7_swear 39 = .ok (.invokevirtual 46, 3) := by decide +kernel
theorem dX7_swear_42 : decode cX7_swear 42 = .ok (.ireturn, 1) := by decide +kernel
theorem dX7_swear_43 : decode cX7_swear 43 = .ok (.aload_n 0, 1) := by decide +kernel
theorem dX7_swear_44 : decode cX7_swear 44 = .ok (.invokevirtual 54, 3) := by decide +kernel
theorem dX7_swear_47 : decode cX7_swear 47 = .ok (.aload_n 0, 1) := by decide +kernel
theorem dX7_swear_48 : decode cX7_swear 48 = .ok (.iload_n 1, 1) := by decide +kernel
theorem dX7_swear_49 : decode cX7_swear 49 = .ok (.iload_n 2, 1) := by decide +kernel
theorem dX7_swear_50 : decode cX7_swear 50 = .ok (.iload_n 3, 1) := by decide +kernel
theorem dX7_swear_51 : decode cX7_swear 51 = .ok (.invokevirtual 158, 3) := by decide +kernel
theorem dX7_swear_54 : decode cX7_swear 54 = .ok (.ireturn, 1) := by decide +kernel
theorem dX7_recant_0 : decode cX7_recant 0 = .ok (.aload_n 0, 1) := by decide +kernel
theorem dX7_recant_1 : decode cX7_recant 1 = .ok (.iconst 0, 1) := by decide +kernel
theorem dX7_recant_2 : decode cX7_recant 2 = .ok (.putfield 31, 3) := by decide +kernel
theorem dX7_recant_5 : decode cX7_recant 5 = .ok (.aload_n 0, 1) := by decide +kernel
theorem dX7_recant_6 : decode cX7_recant 6 = .ok (.iload_n 1, 1) := by decide +kernel
theorem dX7_recant_7 : decode cX7_recant 7 = .ok (.invokevirtual 142, 3) := by decide +kernel
theorem dX7_recant_10 : decode cX7_recant 10 = .ok (.ifCond .eq 11, 3) := by decide +kernel
theorem dX7_recant_13 : decode cX7_recant 13 = .ok (.aload_n 0, 1) := by decide +kernel
theorem dX7_recant_14 : decode cX7_recant 14 = .ok (.iload_n 2, 1) := by decide +kernel
theorem dX7_recant_15 : decode cX7_recant 15 = .ok (.invokevirtual 142, 3) := by decide +kernel
theorem dX7_recant_18 : decode cX7_recant 18 = .ok (.ifCond .ne 9, 3) := by decide +kernel
theorem dX7_recant_21 : decode cX7_recant 21 = .ok (.aload_n 0, 1) := by decide +kernel
theorem dX7_recant_22 : decode cX7_recant 22 = .ok (.iconst 1, 1) := by decide +kernel
theorem dX7_recant_23 : decode cX7_recant 23 = .ok (.invokevirtual 46, 3) := by decide +kernel
theorem dX7_recant_26 : decode cX7_recant 26 = .ok (.ireturn, 1) := by decide +kernel
theorem dX7_recant_27 : decode cX7_recant 27 = .ok (.aload_n 0, 1) := by decide +kernel
theorem dX7_recant_28 : decode cX7_recant 28 = .ok (.invokevirtual 54, 3) := by decide +kernel
theorem dX7_recant_31 : decode cX7_recant 31 = .ok (.aload_n 0, 1) := by decide +kernel
theorem dX7_recant_32 : decode cX7_recant 32 = .ok (.iload_n 1, 1) := by decide +kernel
theorem dX7_recant_33 : decode cX7_recant 33 = .ok (.iload_n 2, 1) := by decide +kernel
theorem dX7_recant_34 : decode cX7_recant 34 = .ok (.invokevirtual 109, 3) := by decide +kernel
theorem dX7_recant_37 : decode cX7_recant 37 = .ok (.istore_n 3, 1) := by decide +kernel
theorem dX7_recant_38 : decode cX7_recant 38 = .ok (.iload_n 3, 1) := by decide +kernel
theorem dX7_recant_39 : decode cX7_recant 39 = .ok (.iconst (-1), 1) := by decide +kernel
theorem dX7_recant_40 : decode cX7_recant 40 = .ok (.if_icmp .eq 8, 3) := by decide +kernel
theorem dX7_recant_43 : decode cX7_recant 43 = .ok (.aload_n 0, 1) := by decide +kernel
theorem dX7_recant_44 : decode cX7_recant 44 = .ok (.iload_n 3, 1) := by decide +kernel
theorem dX7_recant_45 : decode cX7_recant 45 = .ok (.invokevirtual 129, 3) := by decide +kernel
theorem dX7_recant_48 : decode cX7_recant 48 = .ok (.iload_n 3, 1) := by decide +kernel
theorem dX7_recant_49 : decode cX7_recant 49 = .ok (.iconst (-1), 1) := by decide +kernel
theorem dX7_recant_50 : decode cX7_recant 50 = .ok (.if_icmp .ne 7, 3) := by decide +kernel
theorem dX7_recant_53 : decode cX7_recant 53 = .ok (.iconst 0, 1) := by decide +kernel
theorem dX7_recant_54 : decode cX7_recant 54 = .ok (.goto 4, 3) := by decide +kernel
theorem dX7_recant_57 : decode cX7_recant 57 = .ok (.iconst 1, 1) := by decide +kernel
theorem dX7_recant_58 : decode cX7_recant 58 = .ok (.ireturn, 1) := by decide +kernel
theorem dX7_append_0 : decode cX7_append 0 = .ok (.aload_n 0, 1) := by decide +kernel
theorem dX7_append_1 : decode cX7_append 1 = .ok (.iconst 0, 1) := by decide +kernel
theorem dX7_append_2 : decode cX7_append 2 = .ok (.putfield 31, 3) := by decide +kernel
theorem dX7_append_5 : decode cX7_append 5 = .ok (.iload_n 1, 1) := by decide +kernel
theorem dX7_append_6 : decode cX7_append 6 = .ok (.bipush 33, 2) := by decide +kernel
theorem dX7_append_8 : decode cX7_append 8 = .ok (.bipush 126, 2) := by decide +kernel
theorem dX7_append_10 : decode cX7_append 10 = .ok (.invokestatic 35, 3) := by decide +kernel
theorem dX7_append_13 : decode cX7_append 13 = .ok (.ifCond .ne 9, 3) := by decide +kernel
theorem dX7_append_16 : decode cX7_append 16 = .ok (.aload_n 0, 1) := by decide +kernel
theorem dX7_append_17 : decode cX7_append 17 = .ok (.iconst 1, 1) := by decide +kernel
theorem dX7_append_18 : decode cX7_append 18 = .ok (.invokevirtual 46, 3) := by decide +kernel
theorem dX7_append_21 : decode cX7_append 21 = .ok (.ireturn, 1) := by decide +kernel
theorem dX7_append_22 : decode cX7_append 22 = .ok (.aload_n 0, 1) := by decide +kernel
theorem dX7_append_23 : decode cX7_append 23 = .ok (.getfield 139, 3) := by decide +kernel
theorem dX7_append_26 : decode cX7_append 26 = .ok (.bipush 60, 2) := by decide +kernel
theorem dX7_append_28 : decode cX7_append 28 = .ok (.if_icmp .ne 9, 3) := by decide +kernel
theorem dX7_append_31 : decode cX7_append 31 = .ok (.aload_n 0, 1) := by decide +kernel
theorem dX7_append_32 : decode cX7_append 32 = .ok (.iconst 2, 1) := by decide +kernel
theorem dX7_append_33 : decode cX7_append 33 = .ok (.invokevirtual 46, 3) := by decide +kernel
theorem dX7_append_36 : decode cX7_append 36 = .ok (.ireturn, 1) := by decide +kernel
theorem dX7_append_37 : decode cX7_append 37 = .ok (.aload_n 0, 1) := by decide +kernel
theorem dX7_append_38 : decode cX7_append 38 = .ok (.getfield 22, 3) := by decide +kernel
theorem dX7_append_41 : decode cX7_append 41 = .ok (.aload_n 0, 1) := by decide +kernel
theorem dX7_append_42 : decode cX7_append 42 = .ok (.getfield 139, 3) := by decide +kernel
theorem dX7_append_45 : decode cX7_append 45 = .ok (.iload_n 1, 1) := by decide +kernel
theorem dX7_append_46 : decode cX7_append 46 = .ok (.iastore, 1) := by decide +kernel
theorem dX7_append_47 : decode cX7_append 47 = .ok (.aload_n 0, 1) := by decide +kernel
theorem dX7_append_48 : decode cX7_append 48 = .ok (.dup, 1) := by decide +kernel
theorem dX7_append_49 : decode cX7_append 49 = .ok (.getfield 139, 3) := by decide +kernel
theorem dX7_append_52 : decode cX7_append 52 = .ok (.iconst 1, 1) := by decide +kernel
theorem dX7_append_53 : decode cX7_append 53 = .ok (.iadd, 1) := by decide +kernel
theorem dX7_append_54 : decode cX7_append 54 = .ok (.putfield 139, 3) := by decide +kernel
theorem dX7_append_57 : decode cX7_append 57 = .ok (.aload_n 0, 1) := by decide +kernel
theorem dX7_append_58 : decode cX7_append 58 = .ok (.getfield 139, 3) := by decide +kernel
theorem dX7_append_61 : decode cX7_append 61 = .ok (.ireturn, 1) := by decide +kernel
theorem dX7_clearBuffer_0 : decode cX7_clearBuffer 0 = .ok (.aload_n 0, 1) := by decide +kernel
theorem dX7_clearBuffer_1 : decode cX7_clearBuffer 1 = .ok (.iconst 0, 1) := by decide +kernel
theorem dX7_clearBuffer_2 : decode cX7_clearBuffer 2 = .ok (.putfield 31, 3) := by decide +kernel
theorem dX7_clearBuffer_5 : decode cX7_clearBuffer 5 = .ok (.aload_n 0, 1) := by decide +kernel
theorem dX7_clearBuffer_6 : decode cX7_clearBuffer 6 = .ok (.getfield 139, 3) := by decide +kernel
theorem dX7_clearBuffer_9 : decode cX7_clearBuffer 9 = .ok (.istore_n 1, 1) := by decide +kernel
theorem dX7_clearBuffer_10 : decode cX7_clearBuffer 10 = .ok (.aload_n 0, 1) := by decide +kernel
theorem dX7_clearBuffer_11 : decode cX7_clearBuffer 11 = .ok (.iconst 0, 1) := by decide +kernel
theorem dX7_clearBuffer_12 : decode cX7_clearBuffer 12 = .ok (.putfield 139, 3) := by decide +kernel
theorem dX7_clearBuffer_15 : decode cX7_clearBuffer 15 = .ok (.iload_n 1, 1) := by decide +kernel
theorem dX7_clearBuffer_16 : decode cX7_clearBuffer 16 = .ok (.ireturn, 1) := by decide +kernel
theorem dX7_next_0 : decode cX7_next 0 = .ok (.aload_n 0, 1) := by decide +kernel
theorem dX7_next_1 : decode cX7_next 1 = .ok (.getfield 161, 3) := by decide +kernel
theorem dX7_next_4 : decode cX7_next 4 = .ok (.aload_n 0, 1) := by decide +kernel
theorem dX7_next_5 : decode cX7_next 5 = .ok (.getfield 139, 3) := by decide +kernel
theorem dX7_next_8 : decode cX7_next 8 = .ok (.if_icmp .ge 15, 3) := by decide +kernel
theorem dX7_next_11 : decode cX7_next 11 = .ok (.aload_n 0, 1) := by decide +kernel
theorem dX7_next_12 : decode cX7_next 12 = .ok (.getfield 22, 3) := by decide +kernel
theorem dX7_next_15 : decode cX7_next 15 = .ok (.aload_n 0, 1) := by decide +kernel
theorem dX7_next_16 : decode cX7_next 16 = .ok (.getfield 161, 3) := by decide +kernel
theorem dX7_next_19 : decode cX7_next 19 = .ok (.iaload, 1) := by decide +kernel
theorem dX7_next_20 : decode cX7_next 20 = .ok (.goto 4, 3) := by decide +kernel
theorem dX7_next_23 : decode cX7_next 23 = .ok (.iconst 0, 1) := by decide +kernel
theorem dX7_next_24 : decode cX7_next 24 = .ok (.ireturn, 1) := by decide +kernel
theorem dX7_takes_0 : decode cX7_takes 0 = .ok (.aload_n 0, 1) := by decide +kernel
theorem dX7_takes_1 : decode cX7_takes 1 = .ok (.invokevirtual 164, 3) := by decide +kernel
theorem dX7_takes_4 : decode cX7_takes 4 = .ok (.iload_n 1, 1) := by decide +kernel
theorem dX7_takes_5 : decode cX7_takes 5 = .ok (.if_icmp .ne 7, 3) := by decide +kernel
theorem dX7_takes_8 : decode cX7_takes 8 = .ok (.iconst 1, 1) := by decide +kernel
theorem dX7_takes_9 : decode cX7_takes 9 = .ok (.goto 4, 3) := by decide +kernel
theorem dX7_takes_12 : decode cX7_takes 12 = .ok (.iconst 0, 1) := by decide +kernel
theorem dX7_takes_13 : decode cX7_takes 13 = .ok (.istore_n 2, 1) := by decide +kernel
theorem dX7_takes_14 : decode cX7_takes 14 = .ok (.aload_n 0, 1) := by decide +kernel
theorem dX7_takes_15 : decode cX7_takes 15 = .ok (.dup, 1) := by decide +kernel
theorem dX7_takes_16 : decode cX7_takes 16 = .ok (.getfield 161, 3) := by decide +kernel
theorem dX7_takes_19 : decode cX7_takes 19 = .ok (.iload_n 2, 1) := by decide +kernel
theorem dX7_takes_20 : decode cX7_takes 20 = .ok (.ifCond .eq 7, 3) := by decide +kernel
theorem dX7_takes_23 : decode cX7_takes 23 = .ok (.iconst 1, 1) := by decide +kernel
theorem dX7_takes_24 : decode cX7_takes 24 = .ok (.goto 4, 3) := by decide +kernel
theorem dX7_takes_27 : decode cX7_takes 27 = .ok (.iconst 0, 1) := by decide +kernel
theorem dX7_takes_28 : decode cX7_takes 28 = .ok (.iadd, 1) := by decide +kernel
theorem dX7_takes_29 : decode cX7_takes 29 = .ok (.putfield 161, 3) := by decide +kernel
theorem dX7_takes_32 : decode cX7_takes 32 = .ok (.iload_n 2, 1) := by decide +kernel
theorem dX7_takes_33 : decode cX7_takes 33 = .ok (.ireturn, 1) := by decide +kernel
theorem dX7_readNumber_0 : decode cX7_readNumber 0 = .ok (.aload_n 0, 1) := by decide +kernel
theorem dX7_readNumber_1 : decode cX7_readNumber 1 = .ok (.invokevirtual 164, 3) := by decide +kernel
theorem dX7_readNumber_4 : decode cX7_readNumber 4 = .ok (.bipush 48, 2) := by decide +kernel
theorem dX7_readNumber_6 : decode cX7_readNumber 6 = .ok (.isub, 1) := by decide +kernel
theorem dX7_readNumber_7 : decode cX7_readNumber 7 = .ok (.istore_n 3, 1) := by decide +kernel
theorem dX7_readNumber_8 : decode cX7_readNumber 8 = .ok (.iload_n 3, 1) := by decide +kernel
theorem dX7_readNumber_9 : decode cX7_readNumber 9 = .ok (.iload_n 1, 1) := by decide +kernel
theorem dX7_readNumber_10 : decode cX7_readNumber 10 = .ok (.bipush 9, 2) := by decide +kernel
theorem dX7_readNumber_12 : decode cX7_readNumber 12 = .ok (.invokestatic 35, 3) := by decide +kernel
theorem dX7_readNumber_15 : decode cX7_readNumber 15 = .ok (.ifCond .eq 8, 3) := by decide +kernel
theorem dX7_readNumber_18 : decode cX7_readNumber 18 = .ok (.iload_n 3, 1) := by decide +kernel
theorem dX7_readNumber_19 : decode cX7_readNumber 19 = .ok (.iload_n 2, 1) := by decide +kernel
theorem dX7_readNumber_20 : decode cX7_readNumber 20 = .ok (.if_icmp .le 5, 3) := by decide +kernel
theorem dX7_readNumber_23 : decode cX7_readNumber 23 = .ok (.iconst (-1), 1) := by decide +kernel
theorem dX7_readNumber_24 : decode cX7_readNumber 24 = .ok (.ireturn, 1) := by decide +kernel
theorem dX7_readNumber_25 : decode cX7_readNumber 25 = .ok (.aload_n 0, 1) := by decide +kernel
theorem dX7_readNumber_26 : decode cX7_readNumber 26 = .ok (.dup, 1) := by decide +kernel
theorem dX7_readNumber_27 : decode cX7_readNumber 27 = .ok (.getfield 161, 3) := by decide +kernel
theorem dX7_readNumber_30 : decode cX7_readNumber 30 = .ok (.iconst 1, 1) := by decide +kernel
theorem dX7_readNumber_31 : decode cX7_readNumber 31 = .ok (.iadd, 1) := by decide +kernel
theorem dX7_readNumber_32 : decode cX7_readNumber 32 = .ok (.putfield 161, 3) := by decide +kernel
theorem dX7_readNumber_35 : decode cX7_readNumber 35 = .ok (.iload_n 3, 1) := by decide +kernel
theorem dX7_readNumber_36 : decode cX7_readNumber 36 = .ok (.ifCond .le 56, 3) := by decide +kernel
theorem dX7_readNumber_39 : decode cX7_readNumber 39 = .ok (.aload_n 0, 1) := by decide +kernel
theorem dX7_readNumber_40 : decode cX7_readNumber 40 = .ok (.invokevirtual 164, 3) := by decide +kernel
theorem dX7_readNumber_43 : decode cX7_readNumber 43 = .ok (.bipush 48, 2) := by decide +kernel
theorem dX7_readNumber_45 : decode cX7_readNumber 45 = .ok (.bipush 57, 2) := by decide +kernel
theorem dX7_readNumber_47 : decode cX7_readNumber 47 = .ok (.invokestatic 35, 3) := by decide +kernel
theorem dX7_readNumber_50 : decode cX7_readNumber 50 = .ok (.ifCond .eq 42, 3) := by decide +kernel
theorem dX7_readNumber_53 : decode cX7_readNumber 53 = .ok (.bipush 10, 2) := by decide +kernel
theorem dX7_readNumber_55 : decode cX7_readNumber 55 = .ok (.iload_n 3, 1) := by decide +kernel
theorem dX7_readNumber_56 : decode cX7_readNumber 56 = .ok (.imul, 1) := by decide +kernel
theorem dX7_readNumber_57 : decode cX7_readNumber 57 = .ok (.aload_n 0, 1) := by decide +kernel
theorem dX7_readNumber_58 : decode cX7_readNumber 58 = .ok (.invokevirtual 164, 3) := by decide +kernel
theorem dX7_readNumber_61 : decode cX7_readNumber 61 = .ok (.iadd, 1) := by decide +kernel
theorem dX7_readNumber_62 : decode cX7_readNumber 62 = .ok (.bipush 48, 2) := by decide +kernel
theorem dX7_readNumber_64 : decode cX7_readNumber 64 = .ok (.isub, 1) := by decide +kernel
theorem dX7_readNumber_65 : decode cX7_readNumber 65 = .ok (.iload_n 2, 1) := by decide +kernel
theorem dX7_readNumber_66 : decode cX7_readNumber 66 = .ok (.if_icmp .gt 26, 3) := by decide +kernel
theorem dX7_readNumber_69 : decode cX7_readNumber 69 = .ok (.bipush 10, 2) := by decide +kernel
theorem dX7_readNumber_71 : decode cX7_readNumber 71 = .ok (.iload_n 3, 1) := by decide +kernel
theorem dX7_readNumber_72 : decode cX7_readNumber 72 = .ok (.imul, 1) := by decide +kernel
theorem dX7_readNumber_73 : decode cX7_readNumber 73 = .ok (.aload_n 0, 1) := by decide +kernel
theorem dX7_readNumber_74 : decode cX7_readNumber 74 = .ok (.invokevirtual 164, 3) := by decide +kernel
theorem dX7_readNumber_77 : decode cX7_readNumber 77 = .ok (.iadd, 1) := by decide +kernel
theorem dX7_readNumber_78 : decode cX7_readNumber 78 = .ok (.bipush 48, 2) := by decide +kernel
theorem dX7_readNumber_80 : decode cX7_readNumber 80 = .ok (.isub, 1) := by decide +kernel
theorem dX7_readNumber_81 : decode cX7_readNumber 81 = .ok (.istore_n 3, 1) := by decide +kernel
theorem dX7_readNumber_82 : decode cX7_readNumber 82 = .ok (.aload_n 0, 1) := by decide +kernel
theorem dX7_readNumber_83 : decode cX7_readNumber 83 = .ok (.dup, 1) := by decide +kernel
theorem dX7_readNumber_84 : decode cX7_readNumber 84 = .ok (.getfield 161, 3) := by decide +kernel
theorem dX7_readNumber_87 : decode cX7_readNumber 87 = .ok (.iconst 1, 1) := by decide +kernel
theorem dX7_readNumber_88 : decode cX7_readNumber 88 = .ok (.iadd, 1) := by decide +kernel
theorem dX7_readNumber_89 : decode cX7_readNumber 89 = .ok (.putfield 161, 3) := by decide +kernel
theorem dX7_readNumber_92 : decode cX7_readNumber 92 = .ok (.iload_n 3, 1) := by decide +kernel
theorem dX7_readNumber_93 : decode cX7_readNumber 93 = .ok (.ireturn, 1) := by decide +kernel
theorem dX7_readsStroke_0 : decode cX7_readsStroke 0 = .ok (.iconst 5, 1) := by decide +kernel
theorem dX7_readsStroke_1 : decode cX7_readsStroke 1 = .ok (.aload_n 0, 1) := by decide +kernel
theorem dX7_readsStroke_2 : decode cX7_readsStroke 2 = .ok (.getfield 136, 3) := by decide +kernel
theorem dX7_readsStroke_5 : decode cX7_readsStroke 5 = .ok (.imul, 1) := by decide +kernel
theorem dX7_readsStroke_6 : decode cX7_readsStroke 6 = .ok (.istore_n 1, 1) := by decide +kernel
theorem dX7_readsStroke_7 : decode cX7_readsStroke 7 = .ok (.aload_n 0, 1) := by decide +kernel
theorem dX7_readsStroke_8 : decode cX7_readsStroke 8 = .ok (.bipush 45, 2) := by decide +kernel
theorem dX7_readsStroke_10 : decode cX7_readsStroke 10 = .ok (.invokevirtual 167, 3) := by decide +kernel
theorem dX7_readsStroke_13 : decode cX7_readsStroke 13 = .ok (.istore_n 2, 1) := by decide +kernel
theorem dX7_readsStroke_14 : decode cX7_readsStroke 14 = .ok (.aload_n 0, 1) := by decide +kernel
theorem dX7_readsStroke_15 : decode cX7_readsStroke 15 = .ok (.iload_n 2, 1) := by decide +kernel
theorem dX7_readsStroke_16 : decode cX7_readsStroke 16 = .ok (.ifCond .eq 7, 3) := by decide +kernel
theorem dX7_readsStroke_19 : decode cX7_readsStroke 19 = .ok (.iconst 1, 1) := by decide +kernel
theorem dX7_readsStroke_20 : decode cX7_readsStroke 20 = .ok (.goto 4, 3) := by decide +kernel
theorem dX7_readsStroke_23 : decode cX7_readsStroke 23 = .ok (.iconst 0, 1) := by decide +kernel
theorem dX7_readsStroke_24 : decode cX7_readsStroke 24 = .ok (.bipush 45, 2) := by decide +kernel
theorem dX7_readsStroke_26 : decode cX7_readsStroke 26 = .ok (.invokevirtual 170, 3) := by decide +kernel
theorem dX7_readsStroke_29 : decode cX7_readsStroke 29 = .ok (.istore_n 3, 1) := by decide +kernel
theorem dX7_readsStroke_30 : decode cX7_readsStroke 30 = .ok (.iload_n 3, 1) := by decide +kernel
theorem dX7_readsStroke_31 : decode cX7_readsStroke 31 = .ok (.iconst (-1), 1) := by decide +kernel
theorem dX7_readsStroke_32 : decode cX7_readsStroke 32 = .ok (.if_icmp .eq 12, 3) := by decide +kernel
theorem dX7_readsStroke_35 : decode cX7_readsStroke 35 = .ok (.aload_n 0, 1) := by decide +kernel
theorem dX7_readsStroke_36 : decode cX7_readsStroke 36 = .ok (.bipush 58, 2) := by decide +kernel
theorem dX7_readsStroke_38 : decode cX7_readsStroke 38 = .ok (.invokevirtual 167, 3) := by decide +kernel
theorem dX7_readsStroke_41 : decode cX7_readsStroke 41 = .ok (.ifCond .ne 5, 3) := by decide +kernel
theorem dX7_readsStroke_44 : decode cX7_readsStroke 44 = .ok (.iconst 0, 1) := by decide +kernel
theorem dX7_readsStroke_45 : decode cX7_readsStroke 45 = .ok (.ireturn, 1) := by decide +kernel
theorem dX7_readsStroke_46 : decode cX7_readsStroke 46 = .ok (.aload_n 0, 1) := by decide +kernel
theorem dX7_readsStroke_47 : decode cX7_readsStroke 47 = .ok (.iconst 1, 1) := by decide +kernel
theorem dX7_readsStroke_48 : decode cX7_readsStroke 48 = .ok (.bipush 60, 2) := by decide +kernel
theorem dX7_readsStroke_50 : decode cX7_readsStroke 50 = .ok (.invokevirtual 170, 3) := by decide +kernel
theorem dX7_readsStroke_53 : decode cX7_readsStroke 53 = .ok (.istore 4, 2) := by decide +kernel
theorem dX7_readsStroke_55 : decode cX7_readsStroke 55 = .ok (.iload 4, 2) := by decide +kernel
theorem dX7_readsStroke_57 : decode cX7_readsStroke 57 = .ok (.iconst (-1), 1) := by decide +kernel
theorem dX7_readsStroke_58 : decode cX7_readsStroke 58 = .ok (.if_icmp .eq 16, 3) := by decide +kernel
theorem dX7_readsStroke_61 : decode cX7_readsStroke 61 = .ok (.aload_n 0, 1) := by decide +kernel
theorem dX7_readsStroke_62 : decode cX7_readsStroke 62 = .ok (.bipush 111, 2) := by decide +kernel
theorem dX7_readsStroke_64 : decode cX7_readsStroke 64 = .ok (.invokevirtual 167, 3) := by decide +kernel
theorem dX7_readsStroke_67 : decode cX7_readsStroke 67 = .ok (.ifCond .eq 7, 3) := by decide +kernel
theorem dX7_readsStroke_70 : decode cX7_readsStroke 70 = .ok (.iconst 1, 1) := by decide +kernel
theorem dX7_readsStroke_71 : decode cX7_readsStroke 71 = .ok (.goto 4, 3) := by decide +kernel
theorem dX7_readsStroke_74 : decode cX7_readsStroke 74 = .ok (.iconst 0, 1) := by decide +kernel
theorem dX7_readsStroke_75 : decode cX7_readsStroke 75 = .ok (.istore 5, 2) := by decide +kernel
theorem dX7_readsStroke_77 : decode cX7_readsStroke 77 = .ok (.iload 4, 2) := by decide +kernel
theorem dX7_readsStroke_79 : decode cX7_readsStroke 79 = .ok (.iconst (-1), 1) := by decide +kernel
theorem dX7_readsStroke_80 : decode cX7_readsStroke 80 = .ok (.if_icmp .eq 12, 3) := by decide +kernel
theorem dX7_readsStroke_83 : decode cX7_readsStroke 83 = .ok (.aload_n 0, 1) := by decide +kernel
theorem dX7_readsStroke_84 : decode cX7_readsStroke 84 = .ok (.bipush 112, 2) := by decide +kernel
theorem dX7_readsStroke_86 : decode cX7_readsStroke 86 = .ok (.invokevirtual 167, 3) := by decide +kernel
theorem dX7_readsStroke_89 : decode cX7_readsStroke 89 = .ok (.ifCond .ne 5, 3) := by decide +kernel
theorem dX7_readsStroke_92 : decode cX7_readsStroke 92 = .ok (.iconst 0, 1) := by decide +kernel
theorem dX7_readsStroke_93 : decode cX7_readsStroke 93 = .ok (.ireturn, 1) := by decide +kernel
theorem dX7_readsStroke_94 : decode cX7_readsStroke 94 = .ok (.aload_n 0, 1) := by decide +kernel
theorem dX7_readsStroke_95 : decode cX7_readsStroke 95 = .ok (.iconst 1, 1) := by decide +kernel
theorem dX7_readsStroke_96 : decode cX7_readsStroke 96 = .ok (.bipush 9, 2) := by decide +kernel
theorem dX7_readsStroke_98 : decode cX7_readsStroke 98 = .ok (.invokevirtual 170, 3) := by decide +kernel
theorem dX7_readsStroke_101 : decode cX7_readsStroke 101 = .ok (.istore 6, 2) := by decide +kernel
theorem dX7_readsStroke_103 : decode cX7_readsStroke 103 = .ok (.iload 6, 2) := by decide +kernel
theorem dX7_readsStroke_105 : decode cX7_readsStroke 105 = .ok (.iconst (-1), 1) := by decide +kernel
theorem dX7_readsStroke_106 : decode cX7_readsStroke 106 = .ok (.if_icmp .eq 16, 3) := by decide +kernel
theorem dX7_readsStroke_109 : decode cX7_readsStroke 109 = .ok (.aload_n 0, 1) := by decide +kernel
theorem dX7_readsStroke_110 : decode cX7_readsStroke 110 = .ok (.bipush 126, 2) := by decide +kernel
theorem dX7_readsStroke_112 : decode cX7_readsStroke 112 = .ok (.invokevirtual 167, 3) := by decide +kernel
theorem dX7_readsStroke_115 : decode cX7_readsStroke 115 = .ok (.ifCond .eq 7, 3) := by decide +kernel
theorem dX7_readsStroke_118 : decode cX7_readsStroke 118 = .ok (.iconst 1, 1) := by decide +kernel
theorem dX7_readsStroke_119 : decode cX7_readsStroke 119 = .ok (.goto 4, 3) := by decide +kernel
theorem dX7_readsStroke_122 : decode cX7_readsStroke 122 = .ok (.iconst 0, 1) := by decide +kernel
theorem dX7_readsStroke_123 : decode cX7_readsStroke 123 = .ok (.istore 7, 2) := by decide +kernel
theorem dX7_readsStroke_125 : decode cX7_readsStroke 125 = .ok (.iload 7, 2) := by decide +kernel
theorem dX7_readsStroke_127 : decode cX7_readsStroke 127 = .ok (.ifCond .eq 13, 3) := by decide +kernel
theorem dX7_readsStroke_130 : decode cX7_readsStroke 130 = .ok (.aload_n 0, 1) := by decide +kernel
theorem dX7_readsStroke_131 : decode cX7_readsStroke 131 = .ok (.iconst 1, 1) := by decide +kernel
theorem dX7_readsStroke_132 : decode cX7_readsStroke 132 = .ok (.bipush 9, 2) := by decide +kernel
theorem dX7_readsStroke_134 : decode cX7_readsStroke 134 = .ok (.invokevirtual 170, 3) := by decide +kernel
theorem dX7_readsStroke_137 : decode cX7_readsStroke 137 = .ok (.goto 4, 3) := by decide +kernel
theorem dX7_readsStroke_140 : decode cX7_readsStroke 140 = .ok (.iconst 0, 1) := by decide +kernel
theorem dX7_readsStroke_141 : decode cX7_readsStroke 141 = .ok (.istore 8, 2) := by decide +kernel
theorem dX7_readsStroke_143 : decode cX7_readsStroke 143 = .ok (.aload_n 0, 1) := by decide +kernel
theorem dX7_readsStroke_144 : decode cX7_readsStroke 144 = .ok (.getfield 25, 3) := by decide +kernel
theorem dX7_readsStroke_147 : decode cX7_readsStroke 147 = .ok (.iload_n 1, 1) := by decide +kernel
theorem dX7_readsStroke_148 : decode cX7_readsStroke 148 = .ok (.iconst 0, 1) := by decide +kernel
theorem dX7_readsStroke_149 : decode cX7_readsStroke 149 = .ok (.iadd, 1) := by decide +kernel
theorem dX7_readsStroke_150 : decode cX7_readsStroke 150 = .ok (.iload_n 2, 1) := by decide +kernel
theorem dX7_readsStroke_151 : decode cX7_readsStroke 151 = .ok (.ifCond .eq 8, 3) := by decide +kernel
theorem dX7_readsStroke_154 : decode cX7_readsStroke 154 = .ok (.iload_n 3, 1) := by decide +kernel
theorem dX7_readsStroke_155 : decode cX7_readsStroke 155 = .ok (.ineg, 1) := by decide +kernel
theorem dX7_readsStroke_156 : decode cX7_readsStroke 156 = .ok (.goto 4, 3) := by decide +kernel
theorem dX7_readsStroke_159 : decode cX7_readsStroke 159 = .ok (.iload_n 3, 1) := by decide +kernel
theorem dX7_readsStroke_160 : decode cX7_readsStroke 160 = .ok (.iastore, 1) := by decide +kernel
theorem dX7_readsStroke_161 : decode cX7_readsStroke 161 = .ok (.aload_n 0, 1) := by decide +kernel
theorem dX7_readsStroke_162 : decode cX7_readsStroke 162 = .ok (.getfield 25, 3) := by decide +kernel
theorem dX7_readsStroke_165 : decode cX7_readsStroke 165 = .ok (.iload_n 1, 1) := by decide +kernel
theorem dX7_readsStroke_166 : decode cX7_readsStroke 166 = .ok (.iconst 1, 1) := by decide +kernel
theorem dX7_readsStroke_167 : decode cX7_readsStroke 167 = .ok (.iadd, 1) := by decide +kernel
theorem dX7_readsStroke_168 : decode cX7_readsStroke 168 = .ok (.iload 4, 2) := by decide +kernel
theorem dX7_readsStroke_170 : decode cX7_readsStroke 170 = .ok (.iastore, 1) := by decide +kernel
theorem dX7_readsStroke_171 : decode cX7_readsStroke 171 = .ok (.aload_n 0, 1) := by decide +kernel
theorem dX7_readsStroke_172 : decode cX7_readsStroke 172 = .ok (.getfield 25, 3) := by decide +kernel
theorem dX7_readsStroke_175 : decode cX7_readsStroke 175 = .ok (.iload_n 1, 1) := by decide +kernel
theorem dX7_readsStroke_176 : decode cX7_readsStroke 176 = .ok (.iconst 2, 1) := by decide +kernel
theorem dX7_readsStroke_177 : decode cX7_readsStroke 177 = .ok (.iadd, 1) := by decide +kernel
theorem dX7_readsStroke_178 : decode cX7_readsStroke 178 = .ok (.iload 5, 2) := by decide +kernel
theorem dX7_readsStroke_180 : decode cX7_readsStroke 180 = .ok (.ifCond .eq 7, 3) := by decide +kernel
theorem dX7_readsStroke_183 : decode cX7_readsStroke 183 = .ok (.iconst 1, 1) := by decide +kernel
theorem dX7_readsStroke_184 : decode cX7_readsStroke 184 = .ok (.goto 4, 3) := by decide +kernel
theorem dX7_readsStroke_187 : decode cX7_readsStroke 187 = .ok (.iconst 0, 1) := by decide +kernel
theorem dX7_readsStroke_188 : decode cX7_readsStroke 188 = .ok (.iastore, 1) := by decide +kernel
theorem dX7_readsStroke_189 : decode cX7_readsStroke 189 = .ok (.aload_n 0, 1) := by decide +kernel
theorem dX7_readsStroke_190 : decode cX7_readsStroke 190 = .ok (.getfield 25, 3) := by decide +kernel
theorem dX7_readsStroke_193 : decode cX7_readsStroke 193 = .ok (.iload_n 1, 1) := by decide +kernel
theorem dX7_readsStroke_194 : decode cX7_readsStroke 194 = .ok (.iconst 3, 1) := by decide +kernel
theorem dX7_readsStroke_195 : decode cX7_readsStroke 195 = .ok (.iadd, 1) := by decide +kernel
theorem dX7_readsStroke_196 : decode cX7_readsStroke 196 = .ok (.iload 6, 2) := by decide +kernel
theorem dX7_readsStroke_198 : decode cX7_readsStroke 198 = .ok (.iastore, 1) := by decide +kernel
theorem dX7_readsStroke_199 : decode cX7_readsStroke 199 = .ok (.aload_n 0, 1) := by decide +kernel
theorem dX7_readsStroke_200 : decode cX7_readsStroke 200 = .ok (.getfield 25, 3) := by decide +kernel
theorem dX7_readsStroke_203 : decode cX7_readsStroke 203 = .ok (.iload_n 1, 1) := by decide +kernel
theorem dX7_readsStroke_204 : decode cX7_readsStroke 204 = .ok (.iconst 4, 1) := by decide +kernel
theorem dX7_readsStroke_205 : decode cX7_readsStroke 205 = .ok (.iadd, 1) := by decide +kernel
theorem dX7_readsStroke_206 : decode cX7_readsStroke 206 = .ok (.iload 8, 2) := by decide +kernel
theorem dX7_readsStroke_208 : decode cX7_readsStroke 208 = .ok (.iastore, 1) := by decide +kernel
theorem dX7_readsStroke_209 : decode cX7_readsStroke 209 = .ok (.aload_n 0, 1) := by decide +kernel
theorem dX7_readsStroke_210 : decode cX7_readsStroke 210 = .ok (.dup, 1) := by decide +kernel
theorem dX7_readsStroke_211 : decode cX7_readsStroke 211 = .ok (.getfield 136, 3) := by decide +kernel
theorem dX7_readsStroke_214 : decode cX7_readsStroke 214 = .ok (.iconst 1, 1) := by decide +kernel
theorem dX7_readsStroke_215 : decode cX7_readsStroke 215 = .ok (.iadd, 1) := by decide +kernel
theorem dX7_readsStroke_216 : decode cX7_readsStroke 216 = .ok (.putfield 136, 3) := by decide +kernel
theorem dX7_readsStroke_219 : decode cX7_readsStroke 219 = .ok (.iload 6, 2) := by decide +kernel
theorem dX7_readsStroke_221 : decode cX7_readsStroke 221 = .ok (.iconst (-1), 1) := by decide +kernel
theorem dX7_readsStroke_222 : decode cX7_readsStroke 222 = .ok (.if_icmp .eq 13, 3) := by decide +kernel
theorem dX7_readsStroke_225 : decode cX7_readsStroke 225 = .ok (.iload 8, 2) := by decide +kernel
theorem dX7_readsStroke_227 : decode cX7_readsStroke 227 = .ok (.iconst (-1), 1) := by decide +kernel
theorem dX7_readsStroke_228 : decode cX7_readsStroke 228 = .ok (.if_icmp .eq 7, 3) := by decide +kernel
theorem dX7_readsStroke_231 : decode cX7_readsStroke 231 = .ok (.iconst 1, 1) := by decide +kernel
theorem dX7_readsStroke_232 : decode cX7_readsStroke 232 = .ok (.goto 4, 3) := by decide +kernel
theorem dX7_readsStroke_235 : decode cX7_readsStroke 235 = .ok (.iconst 0, 1) := by decide +kernel
theorem dX7_readsStroke_236 : decode cX7_readsStroke 236 = .ok (.ireturn, 1) := by decide +kernel
theorem dX7_findSheetError_0 : decode cX7_findSheetError 0 = .ok (.aload_n 0, 1) := by decide +kernel
theorem dX7_findSheetError_1 : decode cX7_findSheetError 1 = .ok (.iconst 0, 1) := by decide +kernel
theorem dX7_findSheetError_2 : decode cX7_findSheetError 2 = .ok (.putfield 161, 3) := by decide +kernel
theorem dX7_findSheetError_5 : decode cX7_findSheetError 5 = .ok (.aload_n 0, 1) := by decide +kernel
theorem dX7_findSheetError_6 : decode cX7_findSheetError 6 = .ok (.iconst 0, 1) := by decide +kernel
theorem dX7_findSheetError_7 : decode cX7_findSheetError 7 = .ok (.putfield 136, 3) := by decide +kernel
theorem dX7_findSheetError_10 : decode cX7_findSheetError 10 = .ok (.aload_n 0, 1) := by decide +kernel
theorem dX7_findSheetError_11 : decode cX7_findSheetError 11 = .ok (.invokevirtual 173, 3) := by decide +kernel
theorem dX7_findSheetError_14 : decode cX7_findSheetError 14 = .ok (.ifCond .eq 39, 3) := by decide +kernel
theorem dX7_findSheetError_17 : decode cX7_findSheetError 17 = .ok (.aload_n 0, 1) := by decide +kernel
theorem dX7_findSheetError_18 : decode cX7_findSheetError 18 = .ok (.getfield 161, 3) := by decide +kernel
theorem dX7_findSheetError_21 : decode cX7_findSheetError 21 = .ok (.aload_n 0, 1) := by decide +kernel
theorem dX7_findSheetError_22 : decode cX7_findSheetError 22 = .ok (.getfield 139, 3) := by decide +kernel
theorem dX7_findSheetError_25 : decode cX7_findSheetError 25 = .ok (.if_icmp .ne 5, 3) := by decide +kernel
theorem dX7_findSheetError_28 : decode cX7_findSheetError 28 = .ok (.iconst (-1), 1) := by decide +kernel
theorem dX7_findSheetError_29 : decode cX7_findSheetError 29 = .ok (.ireturn, 1) := by decide +kernel
theorem dX7_findSheetError_30 : decode cX7_findSheetError 30 = .ok (.aload_n 0, 1) := by decide +kernel
theorem dX7_findSheetError_31 : decode cX7_findSheetError 31 = .ok (.getfield 136, 3) := by decide +kernel
theorem dX7_findSheetError_34 : decode cX7_findSheetError 34 = .ok (.bipush 8, 2) := by decide +kernel
theorem dX7_findSheetError_36 : decode cX7_findSheetError 36 = .ok (.if_icmp .eq 12, 3) := by decide +kernel
theorem dX7_findSheetError_39 : decode cX7_findSheetError 39 = .ok (.aload_n 0, 1) := by decide +kernel
theorem dX7_findSheetError_40 : decode cX7_findSheetError 40 = .ok (.bipush 44, 2) := by decide +kernel
theorem dX7_findSheetError_42 : decode cX7_findSheetError 42 = .ok (.invokevirtual 167, 3) := by decide +kernel
theorem dX7_findSheetError_45 : decode cX7_findSheetError 45 = .ok (.ifCond .ne (-35), 3) := by decide +kernel
theorem dX7_findSheetError_48 : decode cX7_findSheetError 48 = .ok (.aload_n 0, 1) := by decide +kernel
theorem dX7_findSheetError_49 : decode cX7_findSheetError 49 = .ok (.getfield 161, 3) := by decide +kernel
theorem dX7_findSheetError_52 : decode cX7_findSheetError 52 = .ok (.ireturn, 1) := by decide +kernel
theorem dX7_findSheetError_53 : decode cX7_findSheetError 53 = .ok (.aload_n 0, 1) := by decide +kernel
theorem dX7_findSheetError_54 : decode cX7_findSheetError 54 = .ok (.getfield 161, 3) := by decide +kernel
theorem dX7_findSheetError_57 : decode cX7_findSheetError 57 = .ok (.ireturn, 1) := by decide +kernel
theorem dX7_isSheetText_0 : decode cX7_isSheetText 0 = .ok (.aload_n 0, 1) := by decide +kernel
theorem dX7_isSheetText_1 : decode cX7_isSheetText 1 = .ok (.invokevirtual 176, 3) := by decide +kernel
theorem dX7_isSheetText_4 : decode cX7_isSheetText 4 = .ok (.iconst (-1), 1) := by decide +kernel
theorem dX7_isSheetText_5 : decode cX7_isSheetText 5 = .ok (.if_icmp .ne 7, 3) := by decide +kernel
theorem dX7_isSheetText_8 : decode cX7_isSheetText 8 = .ok (.iconst 1, 1) := by decide +kernel
theorem dX7_isSheetText_9 : decode cX7_isSheetText 9 = .ok (.goto 4, 3) := by decide +kernel
theorem dX7_isSheetText_12 : decode cX7_isSheetText 12 = .ok (.iconst 0, 1) := by decide +kernel
theorem dX7_isSheetText_13 : decode cX7_isSheetText 13 = .ok (.ireturn, 1) := by decide +kernel
theorem dX7_readsPart_0 : decode cX7_readsPart 0 = .ok (.aload_n 0, 1) := by decide +kernel
theorem dX7_readsPart_1 : decode cX7_readsPart 1 = .ok (.aload_n 0, 1) := by decide +kernel
theorem dX7_readsPart_2 : decode cX7_readsPart 2 = .ok (.invokevirtual 164, 3) := by decide +kernel
theorem dX7_readsPart_5 : decode cX7_readsPart 5 = .ok (.putfield 179, 3) := by decide +kernel
theorem dX7_readsPart_8 : decode cX7_readsPart 8 = .ok (.aload_n 0, 1) := by decide +kernel
theorem dX7_readsPart_9 : decode cX7_readsPart 9 = .ok (.getfield 179, 3) := by decide +kernel
theorem dX7_readsPart_12 : decode cX7_readsPart 12 = .ok (.bipush 108, 2) := by decide +kernel
theorem dX7_readsPart_14 : decode cX7_readsPart 14 = .ok (.if_icmp .eq 32, 3) := by decide +kernel
theorem dX7_readsPart_17 : decode cX7_readsPart 17 = .ok (.aload_n 0, 1) := by decide +kernel
theorem dX7_readsPart_18 : decode cX7_readsPart 18 = .ok (.getfield 179, 3) := by decide +kernel
theorem dX7_readsPart_21 : decode cX7_readsPart 21 = .ok (.bipush 117, 2) := by decide +kernel
theorem dX7_readsPart_23 : decode cX7_readsPart 23 = .ok (.if_icmp .eq 23, 3) := by decide +kernel
theorem dX7_readsPart_26 : decode cX7_readsPart 26 = .ok (.aload_n 0, 1) := by decide +kernel
theorem dX7_readsPart_27 : decode cX7_readsPart 27 = .ok (.getfield 179, 3) := by decide +kernel
theorem dX7_readsPart_30 : decode cX7_readsPart 30 = .ok (.bipush 121, 2) := by decide +kernel
theorem dX7_readsPart_32 : decode cX7_readsPart 32 = .ok (.if_icmp .eq 14, 3) := by decide +kernel
theorem dX7_readsPart_35 : decode cX7_readsPart 35 = .ok (.aload_n 0, 1) := by decide +kernel
theorem dX7_readsPart_36 : decode cX7_readsPart 36 = .ok (.getfield 179, 3) := by decide +kernel
theorem dX7_readsPart_39 : decode cX7_readsPart 39 = .ok (.bipush 100, 2) := by decide +kernel
theorem dX7_readsPart_41 : decode cX7_readsPart 41 = .ok (.if_icmp .eq 5, 3) := by decide +kernel
theorem dX7_readsPart_44 : decode cX7_readsPart 44 = .ok (.iconst 0, 1) := by decide +kernel
theorem dX7_readsPart_45 : decode cX7_readsPart 45 = .ok (.ireturn, 1) := by decide +kernel
theorem dX7_readsPart_46 : decode cX7_readsPart 46 = .ok (.aload_n 0, 1) := by decide +kernel
theorem dX7_readsPart_47 : decode cX7_readsPart 47 = .ok (.dup, 1) := by decide +kernel
theorem dX7_readsPart_48 : decode cX7_readsPart 48 = .ok (.getfield 161, 3) := by decide +kernel
theorem dX7_readsPart_51 : decode cX7_readsPart 51 = .ok (.iconst 1, 1) := by decide +kernel
theorem dX7_readsPart_52 : decode cX7_readsPart 52 = .ok (.iadd, 1) := by decide +kernel
theorem dX7_readsPart_53 : decode cX7_readsPart 53 = .ok (.putfield 161, 3) := by decide +kernel
theorem dX7_readsPart_56 : decode cX7_readsPart 56 = .ok (.aload_n 0, 1) := by decide +kernel
theorem dX7_readsPart_57 : decode cX7_readsPart 57 = .ok (.aload_n 0, 1) := by decide +kernel
theorem dX7_readsPart_58 : decode cX7_readsPart 58 = .ok (.getfield 179, 3) := by decide +kernel
theorem dX7_readsPart_61 : decode cX7_readsPart 61 = .ok (.bipush 121, 2) := by decide +kernel
theorem dX7_readsPart_63 : decode cX7_readsPart 63 = .ok (.if_icmp .ne 13, 3) := by decide +kernel
theorem dX7_readsPart_66 : decode cX7_readsPart 66 = .ok (.aload_n 0, 1) := by decide +kernel
theorem dX7_readsPart_67 : decode cX7_readsPart 67 = .ok (.iconst 1, 1) := by decide +kernel
theorem dX7_readsPart_68 : decode cX7_readsPart 68 = .ok (.bipush 99, 2) := by decide +kernel
theorem dX7_readsPart_70 : decode cX7_readsPart 70 = .ok (.invokevirtual 170, 3) := by decide +kernel
theorem dX7_readsPart_73 : decode cX7_readsPart 73 = .ok (.goto 10, 3) := by decide +kernel
theorem dX7_readsPart_76 : decode cX7_readsPart 76 = .ok (.aload_n 0, 1) := by decide +kernel
theorem dX7_readsPart_77 : decode cX7_readsPart 77 = .ok (.iconst 0, 1) := by decide +kernel
theorem dX7_readsPart_78 : decode cX7_readsPart 78 = .ok (.bipush 7, 2) := by decide +kernel
theorem dX7_readsPart_80 : decode cX7_readsPart 80 = .ok (.invokevirtual 170, 3) := by decide +kernel
theorem dX7_readsPart_83 : decode cX7_readsPart 83 = .ok (.putfield 182, 3) := by decide +kernel
theorem dX7_readsPart_86 : decode cX7_readsPart 86 = .ok (.aload_n 0, 1) := by decide +kernel
theorem dX7_readsPart_87 : decode cX7_readsPart 87 = .ok (.getfield 182, 3) := by decide +kernel
theorem dX7_readsPart_90 : decode cX7_readsPart 90 = .ok (.iconst (-1), 1) := by decide +kernel
theorem dX7_readsPart_91 : decode cX7_readsPart 91 = .ok (.if_icmp .eq 21, 3) := by decide +kernel
theorem dX7_readsPart_94 : decode cX7_readsPart 94 = .ok (.aload_n 0, 1) := by decide +kernel
theorem dX7_readsPart_95 : decode cX7_readsPart 95 = .ok (.getfield 179, 3) := by decide +kernel
theorem dX7_readsPart_98 : decode cX7_readsPart 98 = .ok (.bipush 121, 2) := by decide +kernel
theorem dX7_readsPart_100 : decode cX7_readsPart 100 = .ok (.if_icmp .eq 12, 3) := by decide +kernel
theorem dX7_readsPart_103 : decode cX7_readsPart 103 = .ok (.aload_n 0, 1) := by decide +kernel
theorem dX7_readsPart_104 : decode cX7_readsPart 104 = .ok (.getfield 179, 3) := by decide +kernel
theorem dX7_readsPart_107 : decode cX7_readsPart 107 = .ok (.bipush 100, 2) := by decide +kernel
theorem dX7_readsPart_109 : decode cX7_readsPart 109 = .ok (.if_icmp .ne 17, 3) := by decide +kernel
theorem dX7_readsPart_112 : decode cX7_readsPart 112 = .ok (.aload_n 0, 1) := by decide +kernel
theorem dX7_readsPart_113 : decode cX7_readsPart 113 = .ok (.getfield 182, 3) := by decide +kernel
theorem dX7_readsPart_116 : decode cX7_readsPart 116 = .ok (.iconst (-1), 1) := by decide +kernel
theorem dX7_readsPart_117 : decode cX7_readsPart 117 = .ok (.if_icmp .eq 7, 3) := by decide +kernel
theorem dX7_readsPart_120 : decode cX7_readsPart 120 = .ok (.iconst 1, 1) := by decide +kernel
theorem dX7_readsPart_121 : decode cX7_readsPart 121 = .ok (.goto 4, 3) := by decide +kernel
theorem dX7_readsPart_124 : decode cX7_readsPart 124 = .ok (.iconst 0, 1) := by decide +kernel
theorem dX7_readsPart_125 : decode cX7_readsPart 125 = .ok (.ireturn, 1) := by decide +kernel
theorem dX7_readsPart_126 : decode cX7_readsPart 126 = .ok (.aload_n 0, 1) := by decide +kernel
theorem dX7_readsPart_127 : decode cX7_readsPart 127 = .ok (.bipush 47, 2) := by decide +kernel
theorem dX7_readsPart_129 : decode cX7_readsPart 129 = .ok (.invokevirtual 167, 3) := by decide +kernel
theorem dX7_readsPart_132 : decode cX7_readsPart 132 = .ok (.ifCond .ne 5, 3) := by decide +kernel
theorem dX7_readsPart_135 : decode cX7_readsPart 135 = .ok (.iconst 0, 1) := by decide +kernel
theorem dX7_readsPart_136 : decode cX7_readsPart 136 = .ok (.ireturn, 1) := by decide +kernel
theorem dX7_readsPart_137 : decode cX7_readsPart 137 = .ok (.aload_n 0, 1) := by decide +kernel
theorem dX7_readsPart_138 : decode cX7_readsPart 138 = .ok (.aload_n 0, 1) := by decide +kernel
theorem dX7_readsPart_139 : decode cX7_readsPart 139 = .ok (.iconst 0, 1) := by decide +kernel
theorem dX7_readsPart_140 : decode cX7_readsPart 140 = .ok (.bipush 7, 2) := by decide +kernel
theorem dX7_readsPart_142 : decode cX7_readsPart 142 = .ok (.invokevirtual 170, 3) := by decide +kernel
theorem dX7_readsPart_145 : decode cX7_readsPart 145 = .ok (.putfield 185, 3) := by decide +kernel
theorem dX7_readsPart_148 : decode cX7_readsPart 148 = .ok (.aload_n 0, 1) := by decide +kernel
theorem dX7_readsPart_149 : decode cX7_readsPart 149 = .ok (.getfield 185, 3) := by decide +kernel
theorem dX7_readsPart_152 : decode cX7_readsPart 152 = .ok (.iconst (-1), 1) := by decide +kernel
theorem dX7_readsPart_153 : decode cX7_readsPart 153 = .ok (.if_icmp .eq 7, 3) := by decide +kernel
theorem dX7_readsPart_156 : decode cX7_readsPart 156 = .ok (.iconst 1, 1) := by decide +kernel
theorem dX7_readsPart_157 : decode cX7_readsPart 157 = .ok (.goto 4, 3) := by decide +kernel
theorem dX7_readsPart_160 : decode cX7_readsPart 160 = .ok (.iconst 0, 1) := by decide +kernel
theorem dX7_readsPart_161 : decode cX7_readsPart 161 = .ok (.ireturn, 1) := by decide +kernel
theorem dX7_findWorksError_0 : decode cX7_findWorksError 0 = .ok (.aload_n 0, 1) := by decide +kernel
theorem dX7_findWorksError_1 : decode cX7_findWorksError 1 = .ok (.iconst 0, 1) := by decide +kernel
theorem dX7_findWorksError_2 : decode cX7_findWorksError 2 = .ok (.putfield 161, 3) := by decide +kernel
theorem dX7_findWorksError_5 : decode cX7_findWorksError 5 = .ok (.aload_n 0, 1) := by decide +kernel
theorem dX7_findWorksError_6 : decode cX7_findWorksError 6 = .ok (.invokevirtual 188, 3) := by decide +kernel
theorem dX7_findWorksError_9 : decode cX7_findWorksError 9 = .ok (.ifCond .eq 30, 3) := by decide +kernel
theorem dX7_findWorksError_12 : decode cX7_findWorksError 12 = .ok (.aload_n 0, 1) := by decide +kernel
theorem dX7_findWorksError_13 : decode cX7_findWorksError 13 = .ok (.getfield 161, 3) := by decide +kernel
theorem dX7_findWorksError_16 : decode cX7_findWorksError 16 = .ok (.aload_n 0, 1) := by decide +kernel
theorem dX7_findWorksError_17 : decode cX7_findWorksError 17 = .ok (.getfield 139, 3) := by decide +kernel
theorem dX7_findWorksError_20 : decode cX7_findWorksError 20 = .ok (.if_icmp .ne 5, 3) := by decide +kernel
theorem dX7_findWorksError_23 : decode cX7_findWorksError 23 = .ok (.iconst (-1), 1) := by decide +kernel
theorem dX7_findWorksError_24 : decode cX7_findWorksError 24 = .ok (.ireturn, 1) := by decide +kernel
theorem dX7_findWorksError_25 : decode cX7_findWorksError 25 = .ok (.aload_n 0, 1) := by decide +kernel
theorem dX7_findWorksError_26 : decode cX7_findWorksError 26 = .ok (.bipush 59, 2) := by decide +kernel
theorem dX7_findWorksError_28 : decode cX7_findWorksError 28 = .ok (.invokevirtual 167, 3) := by decide +kernel
theorem dX7_findWorksError_31 : decode cX7_findWorksError 31 = .ok (.ifCond .ne (-26), 3) := by decide +kernel
theorem dX7_findWorksError_34 : decode cX7_findWorksError 34 = .ok (.aload_n 0, 1) := by decide +kernel
theorem dX7_findWorksError_35 : decode cX7_findWorksError 35 = .ok (.getfield 161, 3) := by decide +kernel
theorem dX7_findWorksError_38 : decode cX7_findWorksError 38 = .ok (.ireturn, 1) := by decide +kernel
theorem dX7_findWorksError_39 : decode cX7_findWorksError 39 = .ok (.aload_n 0, 1) := by decide +kernel
theorem dX7_findWorksError_40 : decode cX7_findWorksError 40 = .ok (.getfield 161, 3) := by decide +kernel
theorem dX7_findWorksError_43 : decode cX7_findWorksError 43 = .ok (.ireturn, 1) := by decide +kernel
theorem dX7_firstError_0 : decode cX7_firstError 0 = .ok (.aload_n 0, 1) := by decide +kernel
theorem dX7_firstError_1 : decode cX7_firstError 1 = .ok (.iconst 0, 1) := by decide +kernel
theorem dX7_firstError_2 : decode cX7_firstError 2 = .ok (.putfield 31, 3) := by decide +kernel
theorem dX7_firstError_5 : decode cX7_firstError 5 = .ok (.iload_n 1, 1) := by decide +kernel
theorem dX7_firstError_6 : decode cX7_firstError 6 = .ok (.ifCond .eq 10, 3) := by decide +kernel
theorem dX7_firstError_9 : decode cX7_firstError 9 = .ok (.aload_n 0, 1) := by decide +kernel
theorem dX7_firstError_10 : decode cX7_firstError 10 = .ok (.invokevirtual 191, 3) := by decide +kernel
theorem dX7_firstError_13 : decode cX7_firstError 13 = .ok (.goto 7, 3) := by decide +kernel
theorem dX7_firstError_16 : decode cX7_firstError 16 = .ok (.aload_n 0, 1) := by decide +kernel
theorem dX7_firstError_17 : decode cX7_firstError 17 = .ok (.invokevirtual 176, 3) := by decide +kernel
theorem dX7_firstError_20 : decode cX7_firstError 20 = .ok (.istore_n 2, 1) := by decide +kernel
theorem dX7_firstError_21 : decode cX7_firstError 21 = .ok (.iload_n 2, 1) := by decide +kernel
theorem dX7_firstError_22 : decode cX7_firstError 22 = .ok (.iconst (-1), 1) := by decide +kernel
theorem dX7_firstError_23 : decode cX7_firstError 23 = .ok (.if_icmp .ne 10, 3) := by decide +kernel
theorem dX7_firstError_26 : decode cX7_firstError 26 = .ok (.aload_n 0, 1) := by decide +kernel
theorem dX7_firstError_27 : decode cX7_firstError 27 = .ok (.getfield 139, 3) := by decide +kernel
theorem dX7_firstError_30 : decode cX7_firstError 30 = .ok (.goto 4, 3) := by decide +kernel
theorem dX7_firstError_33 : decode cX7_firstError 33 = .ok (.iload_n 2, 1) := by decide +kernel
theorem dX7_firstError_34 : decode cX7_firstError 34 = .ok (.ireturn, 1) := by decide +kernel
theorem dX7_whyNotPart_0 : decode cX7_whyNotPart 0 = .ok (.aload_n 0, 1) := by decide +kernel
theorem dX7_whyNotPart_1 : decode cX7_whyNotPart 1 = .ok (.getfield 179, 3) := by decide +kernel
theorem dX7_whyNotPart_4 : decode cX7_whyNotPart 4 = .ok (.bipush 121, 2) := by decide +kernel
theorem dX7_whyNotPart_6 : decode cX7_whyNotPart 6 = .ok (.if_icmp .ne 5, 3) := by decide +kernel
theorem dX7_whyNotPart_9 : decode cX7_whyNotPart 9 = .ok (.iconst 0, 1) := by decide +kernel
theorem dX7_whyNotPart_10 : decode cX7_whyNotPart 10 = .ok (.ireturn, 1) := by decide +kernel
theorem dX7_whyNotPart_11 : decode cX7_whyNotPart 11 = .ok (.aload_n 0, 1) := by decide +kernel
theorem dX7_whyNotPart_12 : decode cX7_whyNotPart 12 = .ok (.aload_n 0, 1) := by decide +kernel
theorem dX7_whyNotPart_13 : decode cX7_whyNotPart 13 = .ok (.getfield 182, 3) := by decide +kernel
theorem dX7_whyNotPart_16 : decode cX7_whyNotPart 16 = .ok (.invokevirtual 142, 3) := by decide +kernel
theorem dX7_whyNotPart_19 : decode cX7_whyNotPart 19 = .ok (.ifCond .eq 23, 3) := by decide +kernel
theorem dX7_whyNotPart_22 : decode cX7_whyNotPart 22 = .ok (.aload_n 0, 1) := by decide +kernel
theorem dX7_whyNotPart_23 : decode cX7_whyNotPart 23 = .ok (.getfield 179, 3) := by decide +kernel
theorem dX7_whyNotPart_26 : decode cX7_whyNotPart 26 = .ok (.bipush 100, 2) := by decide +kernel
theorem dX7_whyNotPart_28 : decode cX7_whyNotPart 28 = .ok (.if_icmp .eq 17, 3) := by decide +kernel
theorem dX7_whyNotPart_31 : decode cX7_whyNotPart 31 = .ok (.aload_n 0, 1) := by decide +kernel
theorem dX7_whyNotPart_32 : decode cX7_whyNotPart 32 = .ok (.aload_n 0, 1) := by decide +kernel
theorem dX7_whyNotPart_33 : decode cX7_whyNotPart 33 = .ok (.getfield 185, 3) := by decide +kernel
theorem dX7_whyNotPart_36 : decode cX7_whyNotPart 36 = .ok (.invokevirtual 142, 3) := by decide +kernel
theorem dX7_whyNotPart_39 : decode cX7_whyNotPart 39 = .ok (.ifCond .ne 6, 3) := by decide +kernel
theorem dX7_whyNotPart_42 : decode cX7_whyNotPart 42 = .ok (.bipush 7, 2) := by decide +kernel
theorem dX7_whyNotPart_44 : decode cX7_whyNotPart 44 = .ok (.ireturn, 1) := by decide +kernel
theorem dX7_whyNotPart_45 : decode cX7_whyNotPart 45 = .ok (.aload_n 0, 1) := by decide +kernel
theorem dX7_whyNotPart_46 : decode cX7_whyNotPart 46 = .ok (.getfield 179, 3) := by decide +kernel
theorem dX7_whyNotPart_49 : decode cX7_whyNotPart 49 = .ok (.bipush 100, 2) := by decide +kernel
theorem dX7_whyNotPart_51 : decode cX7_whyNotPart 51 = .ok (.if_icmp .ne 7, 3) := by decide +kernel
theorem dX7_whyNotPart_54 : decode cX7_whyNotPart 54 = .ok (.iconst 0, 1) := by decide +kernel
theorem dX7_whyNotPart_55 : decode cX7_whyNotPart 55 = .ok (.goto 29, 3) := by decide +kernel
theorem dX7_whyNotPart_58 : decode cX7_whyNotPart 58 = .ok (.aload_n 0, 1) := by decide +kernel
theorem dX7_whyNotPart_59 : decode cX7_whyNotPart 59 = .ok (.aload_n 0, 1) := by decide +kernel
theorem dX7_whyNotPart_60 : decode cX7_whyNotPart 60 = .ok (.getfield 182, 3) := by decide +kernel
theorem dX7_whyNotPart_63 : decode cX7_whyNotPart 63 = .ok (.aload_n 0, 1) := by decide +kernel
theorem dX7_whyNotPart_64 : decode cX7_whyNotPart 64 = .ok (.getfield 185, 3) := by decide +kernel
theorem dX7_whyNotPart_67 : decode cX7_whyNotPart 67 = .ok (.aload_n 0, 1) := by decide +kernel
theorem dX7_whyNotPart_68 : decode cX7_whyNotPart 68 = .ok (.getfield 179, 3) := by decide +kernel
theorem dX7_whyNotPart_71 : decode cX7_whyNotPart 71 = .ok (.bipush 108, 2) := by decide +kernel
theorem dX7_whyNotPart_73 : decode cX7_whyNotPart 73 = .ok (.if_icmp .ne 7, 3) := by decide +kernel
theorem dX7_whyNotPart_76 : decode cX7_whyNotPart 76 = .ok (.iconst 1, 1) := by decide +kernel
theorem dX7_whyNotPart_77 : decode cX7_whyNotPart 77 = .ok (.goto 4, 3) := by decide +kernel
theorem dX7_whyNotPart_80 : decode cX7_whyNotPart 80 = .ok (.iconst 0, 1) := by decide +kernel
theorem dX7_whyNotPart_81 : decode cX7_whyNotPart 81 = .ok (.invokevirtual 154, 3) := by decide +kernel
theorem dX7_whyNotPart_84 : decode cX7_whyNotPart 84 = .ok (.ireturn, 1) := by decide +kernel
theorem dX7_doPart_0 : decode cX7_doPart 0 = .ok (.aload_n 0, 1) := by decide +kernel
theorem dX7_doPart_1 : decode cX7_doPart 1 = .ok (.getfield 179, 3) := by decide +kernel
theorem dX7_doPart_4 : decode cX7_doPart 4 = .ok (.bipush 121, 2) := by decide +kernel
theorem dX7_doPart_6 : decode cX7_doPart 6 = .ok (.if_icmp .ne 18, 3) := by decide +kernel
theorem dX7_doPart_9 : decode cX7_doPart 9 = .ok (.aload_n 0, 1) := by decide +kernel
theorem dX7_doPart_10 : decode cX7_doPart 10 = .ok (.aload_n 0, 1) := by decide +kernel
theorem dX7_doPart_11 : decode cX7_doPart 11 = .ok (.aload_n 0, 1) := by decide +kernel
theorem dX7_doPart_12 : decode cX7_doPart 12 = .ok (.getfield 182, 3) := by decide +kernel
theorem dX7_doPart_15 : decode cX7_doPart 15 = .ok (.invokevirtual 148, 3) := by decide +kernel
theorem dX7_doPart_18 : decode cX7_doPart 18 = .ok (.putfield 182, 3) := by decide +kernel
theorem dX7_doPart_21 : decode cX7_doPart 21 = .ok (.goto 57, 3) := by decide +kernel
theorem dX7_doPart_24 : decode cX7_doPart 24 = .ok (.aload_n 0, 1) := by decide +kernel
theorem dX7_doPart_25 : decode cX7_doPart 25 = .ok (.getfield 179, 3) := by decide +kernel
theorem dX7_doPart_28 : decode cX7_doPart 28 = .ok (.bipush 100, 2) := by decide +kernel
theorem dX7_doPart_30 : decode cX7_doPart 30 = .ok (.if_icmp .ne 18, 3) := by decide +kernel
theorem dX7_doPart_33 : decode cX7_doPart 33 = .ok (.aload_n 0, 1) := by decide +kernel
theorem dX7_doPart_34 : decode cX7_doPart 34 = .ok (.aload_n 0, 1) := by decide +kernel
theorem dX7_doPart_35 : decode cX7_doPart 35 = .ok (.aload_n 0, 1) := by decide +kernel
theorem dX7_doPart_36 : decode cX7_doPart 36 = .ok (.getfield 182, 3) := by decide +kernel
theorem dX7_doPart_39 : decode cX7_doPart 39 = .ok (.invokevirtual 145, 3) := by decide +kernel
theorem dX7_doPart_42 : decode cX7_doPart 42 = .ok (.putfield 182, 3) := by decide +kernel
theorem dX7_doPart_45 : decode cX7_doPart 45 = .ok (.goto 33, 3) := by decide +kernel
theorem dX7_doPart_48 : decode cX7_doPart 48 = .ok (.aload_n 0, 1) := by decide +kernel
theorem dX7_doPart_49 : decode cX7_doPart 49 = .ok (.aload_n 0, 1) := by decide +kernel
theorem dX7_doPart_50 : decode cX7_doPart 50 = .ok (.aload_n 0, 1) := by decide +kernel
theorem dX7_doPart_51 : decode cX7_doPart 51 = .ok (.getfield 182, 3) := by decide +kernel
theorem dX7_doPart_54 : decode cX7_doPart 54 = .ok (.aload_n 0, 1) := by decide +kernel
theorem dX7_doPart_55 : decode cX7_doPart 55 = .ok (.getfield 185, 3) := by decide +kernel
theorem dX7_doPart_58 : decode cX7_doPart 58 = .ok (.aload_n 0, 1) := by decide +kernel
theorem dX7_doPart_59 : decode cX7_doPart 59 = .ok (.getfield 179, 3) := by decide +kernel
theorem dX7_doPart_62 : decode cX7_doPart 62 = .ok (.bipush 108, 2) := by decide +kernel
theorem dX7_doPart_64 : decode cX7_doPart 64 = .ok (.if_icmp .ne 7, 3) := by decide +kernel
theorem dX7_doPart_67 : decode cX7_doPart 67 = .ok (.iconst 1, 1) := by decide +kernel
theorem dX7_doPart_68 : decode cX7_doPart 68 = .ok (.goto 4, 3) := by decide +kernel
theorem dX7_doPart_71 : decode cX7_doPart 71 = .ok (.iconst 0, 1) := by decide +kernel
theorem dX7_doPart_72 : decode cX7_doPart 72 = .ok (.invokevirtual 158, 3) := by decide +kernel
theorem dX7_doPart_75 : decode cX7_doPart 75 = .ok (.putfield 182, 3) := by decide +kernel
theorem dX7_doPart_78 : decode cX7_doPart 78 = .ok (.return_, 1) := by decide +kernel
theorem dX7_work_0 : decode cX7_work 0 = .ok (.aload_n 0, 1) := by decide +kernel
theorem dX7_work_1 : decode cX7_work 1 = .ok (.iconst 0, 1) := by decide +kernel
theorem dX7_work_2 : decode cX7_work 2 = .ok (.putfield 31, 3) := by decide +kernel
theorem dX7_work_5 : decode cX7_work 5 = .ok (.aload_n 0, 1) := by decide +kernel
theorem dX7_work_6 : decode cX7_work 6 = .ok (.invokevirtual 191, 3) := by decide +kernel
theorem dX7_work_9 : decode cX7_work 9 = .ok (.iconst (-1), 1) := by decide +kernel
theorem dX7_work_10 : decode cX7_work 10 = .ok (.if_icmp .eq 9, 3) := by decide +kernel
theorem dX7_work_13 : decode cX7_work 13 = .ok (.aload_n 0, 1) := by decide +kernel
theorem dX7_work_14 : decode cX7_work 14 = .ok (.iconst 1, 1) := by decide +kernel
theorem dX7_work_15 : decode cX7_work 15 = .ok (.invokevirtual 46, 3) := by decide +kernel
theorem dX7_work_18 : decode cX7_work 18 = .ok (.ireturn, 1) := by decide +kernel
theorem dX7_work_19 : decode cX7_work 19 = .ok (.aload_n 0, 1) := by decide +kernel
theorem dX7_work_20 : decode cX7_work 20 = .ok (.invokevirtual 54, 3) := by decide +kernel
theorem dX7_work_23 : decode cX7_work 23 = .ok (.aload_n 0, 1) := by decide +kernel
theorem dX7_work_24 : decode cX7_work 24 = .ok (.iconst 0, 1) := by decide +kernel
theorem dX7_work_25 : decode cX7_work 25 = .ok (.putfield 161, 3) := by decide +kernel
theorem dX7_work_28 : decode cX7_work 28 = .ok (.iconst 0, 1) := by decide +kernel
theorem dX7_work_29 : decode cX7_work 29 = .ok (.istore_n 1, 1) := by decide +kernel
theorem dX7_work_30 : decode cX7_work 30 = .ok (.iconst 0, 1) := by decide +kernel
theorem dX7_work_31 : decode cX7_work 31 = .ok (.istore_n 2, 1) := by decide +kernel
theorem dX7_work_32 : decode cX7_work 32 = .ok (.iload_n 2, 1) := by decide +kernel
theorem dX7_work_33 : decode cX7_work 33 = .ok (.ifCond .ne 54, 3) := by decide +kernel
theorem dX7_work_36 : decode cX7_work 36 = .ok (.aload_n 0, 1) := by decide +kernel
theorem dX7_work_37 : decode cX7_work 37 = .ok (.getfield 161, 3) := by decide +kernel
theorem dX7_work_40 : decode cX7_work 40 = .ok (.aload_n 0, 1) := by decide +kernel
theorem dX7_work_41 : decode cX7_work 41 = .ok (.getfield 139, 3) := by decide +kernel
theorem dX7_work_44 : decode cX7_work 44 = .ok (.if_icmp .ge 43, 3) := by decide +kernel
theorem dX7_work_47 : decode cX7_work 47 = .ok (.aload_n 0, 1) := by decide +kernel
theorem dX7_work_48 : decode cX7_work 48 = .ok (.invokevirtual 188, 3) := by decide +kernel
theorem dX7_work_51 : decode cX7_work 51 = .ok (.ifCond .eq 10, 3) := by decide +kernel
theorem dX7_work_54 : decode cX7_work 54 = .ok (.aload_n 0, 1) := by decide +kernel
theorem dX7_work_55 : decode cX7_work 55 = .ok (.invokevirtual 194, 3) := by decide +kernel
theorem dX7_work_58 : decode cX7_work 58 = .ok (.goto 4, 3) := by decide +kernel
theorem dX7_work_61 : decode cX7_work 61 = .ok (.iconst (-1), 1) := by decide +kernel
theorem dX7_work_62 : decode cX7_work 62 = .ok (.istore_n 2, 1) := by decide +kernel
theorem dX7_work_63 : decode cX7_work 63 = .ok (.iload_n 2, 1) := by decide +kernel
theorem dX7_work_64 : decode cX7_work 64 = .ok (.ifCond .ne 10, 3) := by decide +kernel
theorem dX7_work_67 : decode cX7_work 67 = .ok (.aload_n 0, 1) := by decide +kernel
theorem dX7_work_68 : decode cX7_work 68 = .ok (.invokevirtual 197, 3) := by decide +kernel
theorem dX7_work_71 : decode cX7_work 71 = .ok (.iinc 1 1, 3) := by decide +kernel
theorem dX7_work_74 : decode cX7_work 74 = .ok (.aload_n 0, 1) := by decide +kernel
theorem dX7_work_75 : decode cX7_work 75 = .ok (.dup, 1) := by decide +kernel
theorem dX7_work_76 : decode cX7_work 76 = .ok (.getfield 161, 3) := by decide +kernel
theorem dX7_work_79 : decode cX7_work 79 = .ok (.iconst 1, 1) := by decide +kernel
theorem dX7_work_80 : decode cX7_work 80 = .ok (.iadd, 1) := by decide +kernel
theorem dX7_work_81 : decode cX7_work 81 = .ok (.putfield 161, 3) := by decide +kernel
theorem dX7_work_84 : decode cX7_work 84 = .ok (.goto (-52), 3) := by decide +kernel
theorem dX7_work_87 : decode cX7_work 87 = .ok (.aload_n 0, 1) := by decide +kernel
theorem dX7_work_88 : decode cX7_work 88 = .ok (.getfield 7, 3) := by decide +kernel
theorem dX7_work_91 : decode cX7_work 91 = .ok (.bipush 12, 2) := by decide +kernel
theorem dX7_work_93 : decode cX7_work 93 = .ok (.iload_n 2, 1) := by decide +kernel
theorem dX7_work_94 : decode cX7_work 94 = .ok (.ifCond .ne 7, 3) := by decide +kernel
theorem dX7_work_97 : decode cX7_work 97 = .ok (.iconst (-1), 1) := by decide +kernel
theorem dX7_work_98 : decode cX7_work 98 = .ok (.goto 4, 3) := by decide +kernel
theorem dX7_work_101 : decode cX7_work 101 = .ok (.iload_n 1, 1) := by decide +kernel
theorem dX7_work_102 : decode cX7_work 102 = .ok (.iastore, 1) := by decide +kernel
theorem dX7_work_103 : decode cX7_work 103 = .ok (.aload_n 0, 1) := by decide +kernel
theorem dX7_work_104 : decode cX7_work 104 = .ok (.getfield 7, 3) := by decide +kernel
theorem dX7_work_107 : decode cX7_work 107 = .ok (.bipush 13, 2) := by decide +kernel
theorem dX7_work_109 : decode cX7_work 109 = .ok (.iload_n 2, 1) := by decide +kernel
theorem dX7_work_110 : decode cX7_work 110 = .ok (.ifCond .ne 7, 3) := by decide +kernel
theorem dX7_work_113 : decode cX7_work 113 = .ok (.iconst (-1), 1) := by decide +kernel
theorem dX7_work_114 : decode cX7_work 114 = .ok (.goto 4, 3) := by decide +kernel
theorem dX7_work_117 : decode cX7_work 117 = .ok (.iload_n 2, 1) := by decide +kernel
theorem dX7_work_118 : decode cX7_work 118 = .ok (.iastore, 1) := by decide +kernel
theorem dX7_work_119 : decode cX7_work 119 = .ok (.aload_n 0, 1) := by decide +kernel
theorem dX7_work_120 : decode cX7_work 120 = .ok (.iconst 0, 1) := by decide +kernel
theorem dX7_work_121 : decode cX7_work 121 = .ok (.putfield 139, 3) := by decide +kernel
theorem dX7_work_124 : decode cX7_work 124 = .ok (.iload_n 1, 1) := by decide +kernel
theorem dX7_work_125 : decode cX7_work 125 = .ok (.ireturn, 1) := by decide +kernel
theorem dX7_stopped_0 : decode cX7_stopped 0 = .ok (.aload_n 0, 1) := by decide +kernel
theorem dX7_stopped_1 : decode cX7_stopped 1 = .ok (.iconst 0, 1) := by decide +kernel
theorem dX7_stopped_2 : decode cX7_stopped 2 = .ok (.putfield 31, 3) := by decide +kernel
theorem dX7_stopped_5 : decode cX7_stopped 5 = .ok (.iload_n 1, 1) := by decide +kernel
theorem dX7_stopped_6 : decode cX7_stopped 6 = .ok (.iconst 0, 1) := by decide +kernel
theorem dX7_stopped_7 : decode cX7_stopped 7 = .ok (.iconst 1, 1) := by decide +kernel
theorem dX7_stopped_8 : decode cX7_stopped 8 = .ok (.invokestatic 35, 3) := by decide +kernel
theorem dX7_stopped_11 : decode cX7_stopped 11 = .ok (.ifCond .eq 15, 3) := by decide +kernel
theorem dX7_stopped_14 : decode cX7_stopped 14 = .ok (.aload_n 0, 1) := by decide +kernel
theorem dX7_stopped_15 : decode cX7_stopped 15 = .ok (.getfield 7, 3) := by decide +kernel
theorem dX7_stopped_18 : decode cX7_stopped 18 = .ok (.bipush 12, 2) := by decide +kernel
theorem dX7_stopped_20 : decode cX7_stopped 20 = .ok (.iload_n 1, 1) := by decide +kernel
theorem dX7_stopped_21 : decode cX7_stopped 21 = .ok (.iadd, 1) := by decide +kernel
theorem dX7_stopped_22 : decode cX7_stopped 22 = .ok (.iaload, 1) := by decide +kernel
theorem dX7_stopped_23 : decode cX7_stopped 23 = .ok (.goto 8, 3) := by decide +kernel
theorem dX7_stopped_26 : decode cX7_stopped 26 = .ok (.aload_n 0, 1) := by decide +kernel
theorem dX7_stopped_27 : decode cX7_stopped 27 = .ok (.iconst 1, 1) := by decide +kernel
theorem dX7_stopped_28 : decode cX7_stopped 28 = .ok (.invokevirtual 46, 3) := by decide +kernel
theorem dX7_stopped_31 : decode cX7_stopped 31 = .ok (.ireturn, 1) := by decide +kernel
theorem dX7_handOf_0 : decode cX7_handOf 0 = .ok (.aload_n 0, 1) := by decide +kernel
theorem dX7_handOf_1 : decode cX7_handOf 1 = .ok (.iconst (-1), 1) := by decide +kernel
theorem dX7_handOf_2 : decode cX7_handOf 2 = .ok (.invokevirtual 105, 3) := by decide +kernel
theorem dX7_handOf_5 : decode cX7_handOf 5 = .ok (.aload_n 0, 1) := by decide +kernel
theorem dX7_handOf_6 : decode cX7_handOf 6 = .ok (.getfield 28, 3) := by decide +kernel
theorem dX7_handOf_9 : decode cX7_handOf 9 = .ok (.iload_n 1, 1) := by decide +kernel
theorem dX7_handOf_10 : decode cX7_handOf 10 = .ok (.iaload, 1) := by decide +kernel
theorem dX7_handOf_11 : decode cX7_handOf 11 = .ok (.ireturn, 1) := by decide +kernel
theorem dX7_oathsOf_0 : decode cX7_oathsOf 0 = .ok (.iconst 0, 1) := by decide +kernel
theorem dX7_oathsOf_1 : decode cX7_oathsOf 1 = .ok (.istore_n 2, 1) := by decide +kernel
theorem dX7_oathsOf_2 : decode cX7_oathsOf 2 = .ok (.iconst 0, 1) := by decide +kernel
theorem dX7_oathsOf_3 : decode cX7_oathsOf 3 = .ok (.istore_n 3, 1) := by decide +kernel
theorem dX7_oathsOf_4 : decode cX7_oathsOf 4 = .ok (.iload_n 3, 1) := by decide +kernel
theorem dX7_oathsOf_5 : decode cX7_oathsOf 5 = .ok (.aload_n 0, 1) := by decide +kernel
theorem dX7_oathsOf_6 : decode cX7_oathsOf 6 = .ok (.getfield 7, 3) := by decide +kernel
theorem dX7_oathsOf_9 : decode cX7_oathsOf 9 = .ok (.bipush 10, 2) := by decide +kernel
theorem dX7_oathsOf_11 : decode cX7_oathsOf 11 = .ok (.iaload, 1) := by decide +kernel
theorem dX7_oathsOf_12 : decode cX7_oathsOf 12 = .ok (.if_icmp .ge 37, 3) := by decide +kernel
theorem dX7_oathsOf_15 : decode cX7_oathsOf 15 = .ok (.iload_n 2, 1) := by decide +kernel
theorem dX7_oathsOf_16 : decode cX7_oathsOf 16 = .ok (.aload_n 0, 1) := by decide +kernel
theorem dX7_oathsOf_17 : decode cX7_oathsOf 17 = .ok (.iload_n 3, 1) := by decide +kernel
theorem dX7_oathsOf_18 : decode cX7_oathsOf 18 = .ok (.iconst 0, 1) := by decide +kernel
theorem dX7_oathsOf_19 : decode cX7_oathsOf 19 = .ok (.invokevirtual 98, 3) := by decide +kernel
theorem dX7_oathsOf_22 : decode cX7_oathsOf 22 = .ok (.iload_n 1, 1) := by decide +kernel
theorem dX7_oathsOf_23 : decode cX7_oathsOf 23 = .ok (.if_icmp .eq 13, 3) := by decide +kernel
theorem dX7_oathsOf_26 : decode cX7_oathsOf 26 = .ok (.aload_n 0, 1) := by decide +kernel
theorem dX7_oathsOf_27 : decode cX7_oathsOf 27 = .ok (.iload_n 3, 1) := by decide +kernel
theorem dX7_oathsOf_28 : decode cX7_oathsOf 28 = .ok (.iconst 1, 1) := by decide +kernel
theorem dX7_oathsOf_29 : decode cX7_oathsOf 29 = .ok (.invokevirtual 98, 3) := by decide +kernel
theorem dX7_oathsOf_32 : decode cX7_oathsOf 32 = .ok (.iload_n 1, 1) := by decide +kernel
theorem dX7_oathsOf_33 : decode cX7_oathsOf 33 = .ok (.if_icmp .ne 7, 3) := by decide +kernel
theorem dX7_oathsOf_36 : decode cX7_oathsOf 36 = .ok (.iconst 1, 1) := by decide +kernel
theorem dX7_oathsOf_37 : decode cX7_oathsOf 37 = .ok (.goto 4, 3) := by decide +kernel
theorem dX7_oathsOf_40 : decode cX7_oathsOf 40 = .ok (.iconst 0, 1) := by decide +kernel
theorem dX7_oathsOf_41 : decode cX7_oathsOf 41 = .ok (.iadd, 1) := by decide +kernel
theorem dX7_oathsOf_42 : decode cX7_oathsOf 42 = .ok (.istore_n 2, 1) := by decide +kernel
theorem dX7_oathsOf_43 : decode cX7_oathsOf 43 = .ok (.iinc 3 1, 3) := by decide +kernel
theorem dX7_oathsOf_46 : decode cX7_oathsOf 46 = .ok (.goto (-42), 3) := by decide +kernel
theorem dX7_oathsOf_49 : decode cX7_oathsOf 49 = .ok (.iload_n 2, 1) := by decide +kernel
theorem dX7_oathsOf_50 : decode cX7_oathsOf 50 = .ok (.ireturn, 1) := by decide +kernel
theorem dX7_tellsSheet_0 : decode cX7_tellsSheet 0 = .ok (.iload_n 2, 1) := by decide +kernel
theorem dX7_tellsSheet_1 : decode cX7_tellsSheet 1 = .ok (.tableswitch 86 0 5 #[39, 46, 53, 60, 74, 80], 39) := by decide +kernel
theorem dX7_tellsSheet_40 : decode cX7_tellsSheet 40 = .ok (.aload_n 0, 1) := by decide +kernel
theorem dX7_tellsSheet_41 : decode cX7_tellsSheet 41 = .ok (.iload_n 1, 1) := by decide +kernel
theorem dX7_tellsSheet_42 : decode cX7_tellsSheet 42 = .ok (.iconst 1, 1) := by decide +kernel
theorem dX7_tellsSheet_43 : decode cX7_tellsSheet 43 = .ok (.invokevirtual 39, 3) := by decide +kernel
theorem dX7_tellsSheet_46 : decode cX7_tellsSheet 46 = .ok (.ireturn, 1) := by decide +kernel
theorem dX7_tellsSheet_47 : decode cX7_tellsSheet 47 = .ok (.aload_n 0, 1) := by decide +kernel
theorem dX7_tellsSheet_48 : decode cX7_tellsSheet 48 = .ok (.iload_n 1, 1) := by decide +kernel
theorem dX7_tellsSheet_49 : decode cX7_tellsSheet 49 = .ok (.iconst 0, 1) := by decide +kernel
theorem dX7_tellsSheet_50 : decode cX7_tellsSheet 50 = .ok (.invokevirtual 39, 3) := by decide +kernel
theorem dX7_tellsSheet_53 : decode cX7_tellsSheet 53 = .ok (.ireturn, 1) := by decide +kernel
theorem dX7_tellsSheet_54 : decode cX7_tellsSheet 54 = .ok (.aload_n 0, 1) := by decide +kernel
theorem dX7_tellsSheet_55 : decode cX7_tellsSheet 55 = .ok (.iload_n 1, 1) := by decide +kernel
theorem dX7_tellsSheet_56 : decode cX7_tellsSheet 56 = .ok (.iconst 2, 1) := by decide +kernel
theorem dX7_tellsSheet_57 : decode cX7_tellsSheet 57 = .ok (.invokevirtual 61, 3) := by decide +kernel
theorem dX7_tellsSheet_60 : decode cX7_tellsSheet 60 = .ok (.ireturn, 1) := by decide +kernel
theorem dX7_tellsSheet_61 : decode cX7_tellsSheet 61 = .ok (.aload_n 0, 1) := by decide +kernel
theorem dX7_tellsSheet_62 : decode cX7_tellsSheet 62 = .ok (.iload_n 1, 1) := by decide +kernel
theorem dX7_tellsSheet_63 : decode cX7_tellsSheet 63 = .ok (.invokevirtual 116, 3) := by decide +kernel
theorem dX7_tellsSheet_66 : decode cX7_tellsSheet 66 = .ok (.ifCond .eq 7, 3) := by decide +kernel
theorem dX7_tellsSheet_69 : decode cX7_tellsSheet 69 = .ok (.iconst 1, 1) := by decide +kernel
theorem dX7_tellsSheet_70 : decode cX7_tellsSheet 70 = .ok (.goto 4, 3) := by decide +kernel
theorem dX7_tellsSheet_73 : decode cX7_tellsSheet 73 = .ok (.iconst 0, 1) := by decide +kernel
theorem dX7_tellsSheet_74 : decode cX7_tellsSheet 74 = .ok (.ireturn, 1) := by decide +kernel
theorem dX7_tellsSheet_75 : decode cX7_tellsSheet 75 = .ok (.aload_n 0, 1) := by decide +kernel
theorem dX7_tellsSheet_76 : decode cX7_tellsSheet 76 = .ok (.iload_n 1, 1) := by decide +kernel
theorem dX7_tellsSheet_77 : decode cX7_tellsSheet 77 = .ok (.invokevirtual 200, 3) := by decide +kernel
theorem dX7_tellsSheet_80 : decode cX7_tellsSheet 80 = .ok (.ireturn, 1) := by decide +kernel
theorem dX7_tellsSheet_81 : decode cX7_tellsSheet 81 = .ok (.aload_n 0, 1) := by decide +kernel
theorem dX7_tellsSheet_82 : decode cX7_tellsSheet 82 = .ok (.iload_n 1, 1) := by decide +kernel
theorem dX7_tellsSheet_83 : decode cX7_tellsSheet 83 = .ok (.invokevirtual 203, 3) := by decide +kernel
theorem dX7_tellsSheet_86 : decode cX7_tellsSheet 86 = .ok (.ireturn, 1) := by decide +kernel
theorem dX7_tellsSheet_87 : decode cX7_tellsSheet 87 = .ok (.aload_n 0, 1) := by decide +kernel
theorem dX7_tellsSheet_88 : decode cX7_tellsSheet 88 = .ok (.iload_n 1, 1) := by decide +kernel
theorem dX7_tellsSheet_89 : decode cX7_tellsSheet 89 = .ok (.invokevirtual 79, 3) := by decide +kernel
theorem dX7_tellsSheet_92 : decode cX7_tellsSheet 92 = .ok (.ifCond .eq 7, 3) := by decide +kernel
theorem dX7_tellsSheet_95 : decode cX7_tellsSheet 95 = .ok (.iconst 1, 1) := by decide +kernel
theorem dX7_tellsSheet_96 : decode cX7_tellsSheet 96 = .ok (.goto 4, 3) := by decide +kernel
theorem dX7_tellsSheet_99 : decode cX7_tellsSheet 99 = .ok (.iconst 0, 1) := by decide +kernel
theorem dX7_tellsSheet_100 : decode cX7_tellsSheet 100 = .ok (.ireturn, 1) := by decide +kernel
theorem dX7_sheet_0 : decode cX7_sheet 0 = .ok (.aload_n 0, 1) := by decide +kernel
theorem dX7_sheet_1 : decode cX7_sheet 1 = .ok (.iconst 0, 1) := by decide +kernel
theorem dX7_sheet_2 : decode cX7_sheet 2 = .ok (.putfield 31, 3) := by decide +kernel
theorem dX7_sheet_5 : decode cX7_sheet 5 = .ok (.aload_n 0, 1) := by decide +kernel
theorem dX7_sheet_6 : decode cX7_sheet 6 = .ok (.iload_n 1, 1) := by decide +kernel
theorem dX7_sheet_7 : decode cX7_sheet 7 = .ok (.invokevirtual 142, 3) := by decide +kernel
theorem dX7_sheet_10 : decode cX7_sheet 10 = .ok (.ifCond .ne 9, 3) := by decide +kernel
theorem dX7_sheet_13 : decode cX7_sheet 13 = .ok (.aload_n 0, 1) := by decide +kernel
theorem dX7_sheet_14 : decode cX7_sheet 14 = .ok (.iconst 1, 1) := by decide +kernel
theorem dX7_sheet_15 : decode cX7_sheet 15 = .ok (.invokevirtual 46, 3) := by decide +kernel
theorem dX7_sheet_18 : decode cX7_sheet 18 = .ok (.ireturn, 1) := by decide +kernel
theorem dX7_sheet_19 : decode cX7_sheet 19 = .ok (.iload_n 2, 1) := by decide +kernel
theorem dX7_sheet_20 : decode cX7_sheet 20 = .ok (.iconst 0, 1) := by decide +kernel
theorem dX7_sheet_21 : decode cX7_sheet 21 = .ok (.bipush 6, 2) := by decide +kernel
theorem dX7_sheet_23 : decode cX7_sheet 23 = .ok (.invokestatic 35, 3) := by decide +kernel
theorem dX7_sheet_26 : decode cX7_sheet 26 = .ok (.ifCond .eq 12, 3) := by decide +kernel
theorem dX7_sheet_29 : decode cX7_sheet 29 = .ok (.aload_n 0, 1) := by decide +kernel
theorem dX7_sheet_30 : decode cX7_sheet 30 = .ok (.iload_n 1, 1) := by decide +kernel
theorem dX7_sheet_31 : decode cX7_sheet 31 = .ok (.iload_n 2, 1) := by decide +kernel
theorem dX7_sheet_32 : decode cX7_sheet 32 = .ok (.invokevirtual 206, 3) := by decide +kernel
theorem dX7_sheet_35 : decode cX7_sheet 35 = .ok (.goto 8, 3) := by decide +kernel
theorem dX7_sheet_38 : decode cX7_sheet 38 = .ok (.aload_n 0, 1) := by decide +kernel
theorem dX7_sheet_39 : decode cX7_sheet 39 = .ok (.iconst 2, 1) := by decide +kernel
theorem dX7_sheet_40 : decode cX7_sheet 40 = .ok (.invokevirtual 46, 3) := by decide +kernel
theorem dX7_sheet_43 : decode cX7_sheet 43 = .ok (.ireturn, 1) := by decide +kernel
theorem dX7_tellsStroke_0 : decode cX7_tellsStroke 0 = .ok (.iload_n 2, 1) := by decide +kernel
theorem dX7_tellsStroke_1 : decode cX7_tellsStroke 1 = .ok (.aload_n 0, 1) := by decide +kernel
theorem dX7_tellsStroke_2 : decode cX7_tellsStroke 2 = .ok (.iload_n 1, 1) := by decide +kernel
theorem dX7_tellsStroke_3 : decode cX7_tellsStroke 3 = .ok (.iconst 1, 1) := by decide +kernel
theorem dX7_tellsStroke_4 : decode cX7_tellsStroke 4 = .ok (.invokevirtual 39, 3) := by decide +kernel
theorem dX7_tellsStroke_7 : decode cX7_tellsStroke 7 = .ok (.if_icmp .lt 5, 3) := by decide +kernel
theorem dX7_tellsStroke_10 : decode cX7_tellsStroke 10 = .ok (.iconst (-1), 1) := by decide +kernel
theorem dX7_tellsStroke_11 : decode cX7_tellsStroke 11 = .ok (.ireturn, 1) := by decide +kernel
theorem dX7_tellsStroke_12 : decode cX7_tellsStroke 12 = .ok (.aload_n 0, 1) := by decide +kernel
theorem dX7_tellsStroke_13 : decode cX7_tellsStroke 13 = .ok (.iload_n 1, 1) := by decide +kernel
theorem dX7_tellsStroke_14 : decode cX7_tellsStroke 14 = .ok (.iload_n 2, 1) := by decide +kernel
theorem dX7_tellsStroke_15 : decode cX7_tellsStroke 15 = .ok (.iload_n 3, 1) := by decide +kernel
theorem dX7_tellsStroke_16 : decode cX7_tellsStroke 16 = .ok (.invokevirtual 57, 3) := by decide +kernel
theorem dX7_tellsStroke_19 : decode cX7_tellsStroke 19 = .ok (.iload_n 3, 1) := by decide +kernel
theorem dX7_tellsStroke_20 : decode cX7_tellsStroke 20 = .ok (.ifCond .ne 8, 3) := by decide +kernel
theorem dX7_tellsStroke_23 : decode cX7_tellsStroke 23 = .ok (.bipush 100, 2) := by decide +kernel
theorem dX7_tellsStroke_25 : decode cX7_tellsStroke 25 = .ok (.goto 4, 3) := by decide +kernel
theorem dX7_tellsStroke_28 : decode cX7_tellsStroke 28 = .ok (.iconst 0, 1) := by decide +kernel
theorem dX7_tellsStroke_29 : decode cX7_tellsStroke 29 = .ok (.iadd, 1) := by decide +kernel
theorem dX7_tellsStroke_30 : decode cX7_tellsStroke 30 = .ok (.ireturn, 1) := by decide +kernel
theorem dX7_stroke_0 : decode cX7_stroke 0 = .ok (.aload_n 0, 1) := by decide +kernel
theorem dX7_stroke_1 : decode cX7_stroke 1 = .ok (.iconst 0, 1) := by decide +kernel
theorem dX7_stroke_2 : decode cX7_stroke 2 = .ok (.putfield 31, 3) := by decide +kernel
theorem dX7_stroke_5 : decode cX7_stroke 5 = .ok (.aload_n 0, 1) := by decide +kernel
theorem dX7_stroke_6 : decode cX7_stroke 6 = .ok (.iload_n 1, 1) := by decide +kernel
theorem dX7_stroke_7 : decode cX7_stroke 7 = .ok (.invokevirtual 142, 3) := by decide +kernel
theorem dX7_stroke_10 : decode cX7_stroke 10 = .ok (.ifCond .ne 9, 3) := by decide +kernel
theorem dX7_stroke_13 : decode cX7_stroke 13 = .ok (.aload_n 0, 1) := by decide +kernel
theorem dX7_stroke_14 : decode cX7_stroke 14 = .ok (.iconst 1, 1) := by decide +kernel
theorem dX7_stroke_15 : decode cX7_stroke 15 = .ok (.invokevirtual 46, 3) := by decide +kernel
theorem dX7_stroke_18 : decode cX7_stroke 18 = .ok (.ireturn, 1) := by decide +kernel
theorem dX7_stroke_19 : decode cX7_stroke 19 = .ok (.iload_n 2, 1) := by decide +kernel
theorem dX7_stroke_20 : decode cX7_stroke 20 = .ok (.iconst 0, 1) := by decide +kernel
theorem dX7_stroke_21 : decode cX7_stroke 21 = .ok (.bipush 7, 2) := by decide +kernel
theorem dX7_stroke_23 : decode cX7_stroke 23 = .ok (.invokestatic 35, 3) := by decide +kernel
theorem dX7_stroke_26 : decode cX7_stroke 26 = .ok (.ifCond .eq 22, 3) := by decide +kernel
theorem dX7_stroke_29 : decode cX7_stroke 29 = .ok (.iload_n 3, 1) := by decide +kernel
theorem dX7_stroke_30 : decode cX7_stroke 30 = .ok (.iconst 0, 1) := by decide +kernel
theorem dX7_stroke_31 : decode cX7_stroke 31 = .ok (.iconst 4, 1) := by decide +kernel
theorem dX7_stroke_32 : decode cX7_stroke 32 = .ok (.invokestatic 35, 3) := by decide +kernel
theorem dX7_stroke_35 : decode cX7_stroke 35 = .ok (.ifCond .eq 13, 3) := by decide +kernel
theorem dX7_stroke_38 : decode cX7_stroke 38 = .ok (.aload_n 0, 1) := by decide +kernel
theorem dX7_stroke_39 : decode cX7_stroke 39 = .ok (.iload_n 1, 1) := by decide +kernel
theorem dX7_stroke_40 : decode cX7_stroke 40 = .ok (.iload_n 2, 1) := by decide +kernel
theorem dX7_stroke_41 : decode cX7_stroke 41 = .ok (.iload_n 3, 1) := by decide +kernel
theorem dX7_stroke_42 : decode cX7_stroke 42 = .ok (.invokevirtual 209, 3) := by decide +kernel
theorem dX7_stroke_45 : decode cX7_stroke 45 = .ok (.goto 8, 3) := by decide +kernel
theorem dX7_stroke_48 : decode cX7_stroke 48 = .ok (.aload_n 0, 1) := by decide +kernel
theorem dX7_stroke_49 : decode cX7_stroke 49 = .ok (.iconst 2, 1) := by decide +kernel
theorem dX7_stroke_50 : decode cX7_stroke 50 = .ok (.invokevirtual 46, 3) := by decide +kernel
theorem dX7_stroke_53 : decode cX7_stroke 53 = .ok (.ireturn, 1) := by decide +kernel
theorem dX7_mark_0 : decode cX7_mark 0 = .ok (.aload_n 0, 1) := by decide +kernel
theorem dX7_mark_1 : decode cX7_mark 1 = .ok (.iconst 0, 1) := by decide +kernel
theorem dX7_mark_2 : decode cX7_mark 2 = .ok (.putfield 31, 3) := by decide +kernel
theorem dX7_mark_5 : decode cX7_mark 5 = .ok (.aload_n 0, 1) := by decide +kernel
theorem dX7_mark_6 : decode cX7_mark 6 = .ok (.iload_n 1, 1) := by decide +kernel
theorem dX7_mark_7 : decode cX7_mark 7 = .ok (.invokevirtual 142, 3) := by decide +kernel
theorem dX7_mark_10 : decode cX7_mark 10 = .ok (.ifCond .ne 9, 3) := by decide +kernel
theorem dX7_mark_13 : decode cX7_mark 13 = .ok (.aload_n 0, 1) := by decide +kernel
theorem dX7_mark_14 : decode cX7_mark 14 = .ok (.iconst 1, 1) := by decide +kernel
theorem dX7_mark_15 : decode cX7_mark 15 = .ok (.invokevirtual 46, 3) := by decide +kernel
theorem dX7_mark_18 : decode cX7_mark 18 = .ok (.ireturn, 1) := by decide +kernel
theorem dX7_mark_19 : decode cX7_mark 19 = .ok (.iload_n 2, 1) := by decide +kernel
theorem dX7_mark_20 : decode cX7_mark 20 = .ok (.iconst 0, 1) := by decide +kernel
theorem dX7_mark_21 : decode cX7_mark 21 = .ok (.iconst 5, 1) := by decide +kernel
theorem dX7_mark_22 : decode cX7_mark 22 = .ok (.invokestatic 35, 3) := by decide +kernel
theorem dX7_mark_25 : decode cX7_mark 25 = .ok (.ifCond .eq 16, 3) := by decide +kernel
theorem dX7_mark_28 : decode cX7_mark 28 = .ok (.aload_n 0, 1) := by decide +kernel
theorem dX7_mark_29 : decode cX7_mark 29 = .ok (.iload_n 1, 1) := by decide +kernel
theorem dX7_mark_30 : decode cX7_mark 30 = .ok (.iload_n 2, 1) := by decide +kernel
theorem dX7_mark_31 : decode cX7_mark 31 = .ok (.invokevirtual 83, 3) := by decide +kernel
theorem dX7_mark_34 : decode cX7_mark 34 = .ok (.sipush 1000, 3) := by decide +kernel
theorem dX7_mark_37 : decode cX7_mark 37 = .ok (.iadd, 1) := by decide +kernel
theorem dX7_mark_38 : decode cX7_mark 38 = .ok (.goto 8, 3) := by decide +kernel
theorem dX7_mark_41 : decode cX7_mark 41 = .ok (.aload_n 0, 1) := by decide +kernel
theorem dX7_mark_42 : decode cX7_mark 42 = .ok (.iconst 2, 1) := by decide +kernel
theorem dX7_mark_43 : decode cX7_mark 43 = .ok (.invokevirtual 46, 3) := by decide +kernel
theorem dX7_mark_46 : decode cX7_mark 46 = .ok (.ireturn, 1) := by decide +kernel
theorem dX7_tellsOathOf_0 : decode cX7_tellsOathOf 0 = .ok (.aload_n 0, 1) := by decide +kernel
theorem dX7_tellsOathOf_1 : decode cX7_tellsOathOf 1 = .ok (.iload_n 1, 1) := by decide +kernel
theorem dX7_tellsOathOf_2 : decode cX7_tellsOathOf 2 = .ok (.iload_n 2, 1) := by decide +kernel
theorem dX7_tellsOathOf_3 : decode cX7_tellsOathOf 3 = .ok (.invokevirtual 109, 3) := by decide +kernel
theorem dX7_tellsOathOf_6 : decode cX7_tellsOathOf 6 = .ok (.istore_n 3, 1) := by decide +kernel
theorem dX7_tellsOathOf_7 : decode cX7_tellsOathOf 7 = .ok (.iload_n 3, 1) := by decide +kernel
theorem dX7_tellsOathOf_8 : decode cX7_tellsOathOf 8 = .ok (.iconst (-1), 1) := by decide +kernel
theorem dX7_tellsOathOf_9 : decode cX7_tellsOathOf 9 = .ok (.if_icmp .ne 7, 3) := by decide +kernel
theorem dX7_tellsOathOf_12 : decode cX7_tellsOathOf 12 = .ok (.iconst (-1), 1) := by decide +kernel
theorem dX7_tellsOathOf_13 : decode cX7_tellsOathOf 13 = .ok (.goto 9, 3) := by decide +kernel
theorem dX7_tellsOathOf_16 : decode cX7_tellsOathOf 16 = .ok (.aload_n 0, 1) := by decide +kernel
theorem dX7_tellsOathOf_17 : decode cX7_tellsOathOf 17 = .ok (.iload_n 3, 1) := by decide +kernel
theorem dX7_tellsOathOf_18 : decode cX7_tellsOathOf 18 = .ok (.iconst 2, 1) := by decide +kernel
theorem dX7_tellsOathOf_19 : decode cX7_tellsOathOf 19 = .ok (.invokevirtual 98, 3) := by decide +kernel
theorem dX7_tellsOathOf_22 : decode cX7_tellsOathOf 22 = .ok (.ireturn, 1) := by decide +kernel
theorem dX7_compares_0 : decode cX7_compares 0 = .ok (.iload_n 3, 1) := by decide +kernel
theorem dX7_compares_1 : decode cX7_compares 1 = .ok (.tableswitch 60 0 3 #[31, 38, 45, 45], 31) := by decide +kernel
theorem dX7_compares_32 : decode cX7_compares 32 = .ok (.aload_n 0, 1) := by decide +kernel
theorem dX7_compares_33 : decode cX7_compares 33 = .ok (.iload_n 1, 1) := by decide +kernel
theorem dX7_compares_34 : decode cX7_compares 34 = .ok (.iload_n 2, 1) := by decide +kernel
theorem dX7_compares_35 : decode cX7_compares 35 = .ok (.invokevirtual 119, 3) := by decide +kernel
theorem dX7_compares_38 : decode cX7_compares 38 = .ok (.ireturn, 1) := by decide +kernel
theorem dX7_compares_39 : decode cX7_compares 39 = .ok (.aload_n 0, 1) := by decide +kernel
theorem dX7_compares_40 : decode cX7_compares 40 = .ok (.iload_n 1, 1) := by decide +kernel
theorem dX7_compares_41 : decode cX7_compares 41 = .ok (.iload_n 2, 1) := by decide +kernel
theorem dX7_compares_42 : decode cX7_compares 42 = .ok (.invokevirtual 92, 3) := by decide +kernel
theorem dX7_compares_45 : decode cX7_compares 45 = .ok (.ireturn, 1) := by decide +kernel
theorem dX7_compares_46 : decode cX7_compares 46 = .ok (.aload_n 0, 1) := by decide +kernel
theorem dX7_compares_47 : decode cX7_compares 47 = .ok (.iload_n 1, 1) := by decide +kernel
theorem dX7_compares_48 : decode cX7_compares 48 = .ok (.iload_n 2, 1) := by decide +kernel
theorem dX7_compares_49 : decode cX7_compares 49 = .ok (.invokevirtual 112, 3) := by decide +kernel
theorem dX7_compares_52 : decode cX7_compares 52 = .ok (.ifCond .eq 7, 3) := by decide +kernel
theorem dX7_compares_55 : decode cX7_compares 55 = .ok (.iconst 1, 1) := by decide +kernel
theorem dX7_compares_56 : decode cX7_compares 56 = .ok (.goto 4, 3) := by decide +kernel
theorem dX7_compares_59 : decode cX7_compares 59 = .ok (.iconst 0, 1) := by decide +kernel
theorem dX7_compares_60 : decode cX7_compares 60 = .ok (.ireturn, 1) := by decide +kernel
theorem dX7_compares_61 : decode cX7_compares 61 = .ok (.aload_n 0, 1) := by decide +kernel
theorem dX7_compares_62 : decode cX7_compares 62 = .ok (.iload_n 1, 1) := by decide +kernel
theorem dX7_compares_63 : decode cX7_compares 63 = .ok (.iload_n 2, 1) := by decide +kernel
theorem dX7_compares_64 : decode cX7_compares 64 = .ok (.invokevirtual 212, 3) := by decide +kernel
theorem dX7_compares_67 : decode cX7_compares 67 = .ok (.ireturn, 1) := by decide +kernel
theorem dX7_compare_0 : decode cX7_compare 0 = .ok (.aload_n 0, 1) := by decide +kernel
theorem dX7_compare_1 : decode cX7_compare 1 = .ok (.iconst 0, 1) := by decide +kernel
theorem dX7_compare_2 : decode cX7_compare 2 = .ok (.putfield 31, 3) := by decide +kernel
theorem dX7_compare_5 : decode cX7_compare 5 = .ok (.aload_n 0, 1) := by decide +kernel
theorem dX7_compare_6 : decode cX7_compare 6 = .ok (.iload_n 1, 1) := by decide +kernel
theorem dX7_compare_7 : decode cX7_compare 7 = .ok (.invokevirtual 142, 3) := by decide +kernel
theorem dX7_compare_10 : decode cX7_compare 10 = .ok (.ifCond .eq 11, 3) := by decide +kernel
theorem dX7_compare_13 : decode cX7_compare 13 = .ok (.aload_n 0, 1) := by decide +kernel
theorem dX7_compare_14 : decode cX7_compare 14 = .ok (.iload_n 2, 1) := by decide +kernel
theorem dX7_compare_15 : decode cX7_compare 15 = .ok (.invokevirtual 142, 3) := by decide +kernel
theorem dX7_compare_18 : decode cX7_compare 18 = .ok (.ifCond .ne 9, 3) := by decide +kernel
theorem dX7_compare_21 : decode cX7_compare 21 = .ok (.aload_n 0, 1) := by decide +kernel
theorem dX7_compare_22 : decode cX7_compare 22 = .ok (.iconst 1, 1) := by decide +kernel
theorem dX7_compare_23 : decode cX7_compare 23 = .ok (.invokevirtual 46, 3) := by decide +kernel
theorem dX7_compare_26 : decode cX7_compare 26 = .ok (.ireturn, 1) := by decide +kernel
theorem dX7_compare_27 : decode cX7_compare 27 = .ok (.iload_n 3, 1) := by decide +kernel
theorem dX7_compare_28 : decode cX7_compare 28 = .ok (.iconst 0, 1) := by decide +kernel
theorem dX7_compare_29 : decode cX7_compare 29 = .ok (.iconst 4, 1) := by decide +kernel
theorem dX7_compare_30 : decode cX7_compare 30 = .ok (.invokestatic 35, 3) := by decide +kernel
theorem dX7_compare_33 : decode cX7_compare 33 = .ok (.ifCond .eq 13, 3) := by decide +kernel
theorem dX7_compare_36 : decode cX7_compare 36 = .ok (.aload_n 0, 1) := by decide +kernel
theorem dX7_compare_37 : decode cX7_compare 37 = .ok (.iload_n 1, 1) := by decide +kernel
theorem dX7_compare_38 : decode cX7_compare 38 = .ok (.iload_n 2, 1) := by decide +kernel
theorem dX7_compare_39 : decode cX7_compare 39 = .ok (.iload_n 3, 1) := by decide +kernel
theorem dX7_compare_40 : decode cX7_compare 40 = .ok (.invokevirtual 215, 3) := by decide +kernel
theorem dX7_compare_43 : decode cX7_compare 43 = .ok (.goto 8, 3) := by decide +kernel
theorem dX7_compare_46 : decode cX7_compare 46 = .ok (.aload_n 0, 1) := by decide +kernel
theorem dX7_compare_47 : decode cX7_compare 47 = .ok (.iconst 2, 1) := by decide +kernel
theorem dX7_compare_48 : decode cX7_compare 48 = .ok (.invokevirtual 46, 3) := by decide +kernel
theorem dX7_compare_51 : decode cX7_compare 51 = .ok (.ireturn, 1) := by decide +kernel
theorem dX7_tellsOath_0 : decode cX7_tellsOath 0 = .ok (.iload_n 1, 1) := by decide +kernel
theorem dX7_tellsOath_1 : decode cX7_tellsOath 1 = .ok (.aload_n 0, 1) := by decide +kernel
theorem dX7_tellsOath_2 : decode cX7_tellsOath 2 = .ok (.getfield 7, 3) := by decide +kernel
theorem dX7_tellsOath_5 : decode cX7_tellsOath 5 = .ok (.bipush 10, 2) := by decide +kernel
theorem dX7_tellsOath_7 : decode cX7_tellsOath 7 = .ok (.iaload, 1) := by decide +kernel
theorem dX7_tellsOath_8 : decode cX7_tellsOath 8 = .ok (.if_icmp .lt 7, 3) := by decide +kernel
theorem dX7_tellsOath_11 : decode cX7_tellsOath 11 = .ok (.iconst (-1), 1) := by decide +kernel
theorem dX7_tellsOath_12 : decode cX7_tellsOath 12 = .ok (.goto 30, 3) := by decide +kernel
theorem dX7_tellsOath_15 : decode cX7_tellsOath 15 = .ok (.iload_n 2, 1) := by decide +kernel
theorem dX7_tellsOath_16 : decode cX7_tellsOath 16 = .ok (.iconst 3, 1) := by decide +kernel
theorem dX7_tellsOath_17 : decode cX7_tellsOath 17 = .ok (.if_icmp .ne 19, 3) := by decide +kernel
theorem dX7_tellsOath_20 : decode cX7_tellsOath 20 = .ok (.aload_n 0, 1) := by decide +kernel
theorem dX7_tellsOath_21 : decode cX7_tellsOath 21 = .ok (.iload_n 1, 1) := by decide +kernel
theorem dX7_tellsOath_22 : decode cX7_tellsOath 22 = .ok (.invokevirtual 218, 3) := by decide +kernel
theorem dX7_tellsOath_25 : decode cX7_tellsOath 25 = .ok (.ifCond .eq 7, 3) := by decide +kernel
theorem dX7_tellsOath_28 : decode cX7_tellsOath 28 = .ok (.iconst 1, 1) := by decide +kernel
theorem dX7_tellsOath_29 : decode cX7_tellsOath 29 = .ok (.goto 13, 3) := by decide +kernel
theorem dX7_tellsOath_32 : decode cX7_tellsOath 32 = .ok (.iconst 0, 1) := by decide +kernel
theorem dX7_tellsOath_33 : decode cX7_tellsOath 33 = .ok (.goto 9, 3) := by decide +kernel
theorem dX7_tellsOath_36 : decode cX7_tellsOath 36 = .ok (.aload_n 0, 1) := by decide +kernel
theorem dX7_tellsOath_37 : decode cX7_tellsOath 37 = .ok (.iload_n 1, 1) := by decide +kernel
theorem dX7_tellsOath_38 : decode cX7_tellsOath 38 = .ok (.iload_n 2, 1) := by decide +kernel
theorem dX7_tellsOath_39 : decode cX7_tellsOath 39 = .ok (.invokevirtual 98, 3) := by decide +kernel
theorem dX7_tellsOath_42 : decode cX7_tellsOath 42 = .ok (.ireturn, 1) := by decide +kernel
theorem dX7_oath_0 : decode cX7_oath 0 = .ok (.aload_n 0, 1) := by decide +kernel
theorem dX7_oath_1 : decode cX7_oath 1 = .ok (.iconst 0, 1) := by decide +kernel
theorem dX7_oath_2 : decode cX7_oath 2 = .ok (.putfield 31, 3) := by decide +kernel
theorem dX7_oath_5 : decode cX7_oath 5 = .ok (.iload_n 1, 1) := by decide +kernel
theorem dX7_oath_6 : decode cX7_oath 6 = .ok (.ifCond .lt 21, 3) := by decide +kernel
theorem dX7_oath_9 : decode cX7_oath 9 = .ok (.iload_n 2, 1) := by decide +kernel
theorem dX7_oath_10 : decode cX7_oath 10 = .ok (.iconst 0, 1) := by decide +kernel
theorem dX7_oath_11 : decode cX7_oath 11 = .ok (.iconst 3, 1) := by decide +kernel
theorem dX7_oath_12 : decode cX7_oath 12 = .ok (.invokestatic 35, 3) := by decide +kernel
theorem dX7_oath_15 : decode cX7_oath 15 = .ok (.ifCond .eq 12, 3) := by decide +kernel
theorem dX7_oath_18 : decode cX7_oath 18 = .ok (.aload_n 0, 1) := by decide +kernel
theorem dX7_oath_19 : decode cX7_oath 19 = .ok (.iload_n 1, 1) := by decide +kernel
theorem dX7_oath_20 : decode cX7_oath 20 = .ok (.iload_n 2, 1) := by decide +kernel
theorem dX7_oath_21 : decode cX7_oath 21 = .ok (.invokevirtual 221, 3) := by decide +kernel
theorem dX7_oath_24 : decode cX7_oath 24 = .ok (.goto 8, 3) := by decide +kernel
theorem dX7_oath_27 : decode cX7_oath 27 = .ok (.aload_n 0, 1) := by decide +kernel
theorem dX7_oath_28 : decode cX7_oath 28 = .ok (.iconst 1, 1) := by decide +kernel
theorem dX7_oath_29 : decode cX7_oath 29 = .ok (.invokevirtual 46, 3) := by decide +kernel
theorem dX7_oath_32 : decode cX7_oath 32 = .ok (.ireturn, 1) := by decide +kernel
theorem dX7_likeOaths_0 : decode cX7_likeOaths 0 = .ok (.iconst 0, 1) := by decide +kernel
theorem dX7_likeOaths_1 : decode cX7_likeOaths 1 = .ok (.istore_n 1, 1) := by decide +kernel
theorem dX7_likeOaths_2 : decode cX7_likeOaths 2 = .ok (.iconst 0, 1) := by decide +kernel
theorem dX7_likeOaths_3 : decode cX7_likeOaths 3 = .ok (.istore_n 2, 1) := by decide +kernel
theorem dX7_likeOaths_4 : decode cX7_likeOaths 4 = .ok (.iload_n 2, 1) := by decide +kernel
theorem dX7_likeOaths_5 : decode cX7_likeOaths 5 = .ok (.aload_n 0, 1) := by decide +kernel
theorem dX7_likeOaths_6 : decode cX7_likeOaths 6 = .ok (.getfield 7, 3) := by decide +kernel
theorem dX7_likeOaths_9 : decode cX7_likeOaths 9 = .ok (.bipush 10, 2) := by decide +kernel
theorem dX7_likeOaths_11 : decode cX7_likeOaths 11 = .ok (.iaload, 1) := by decide +kernel
theorem dX7_likeOaths_12 : decode cX7_likeOaths 12 = .ok (.if_icmp .ge 18, 3) := by decide +kernel
theorem dX7_likeOaths_15 : decode cX7_likeOaths 15 = .ok (.iload_n 1, 1) := by decide +kernel
theorem dX7_likeOaths_16 : decode cX7_likeOaths 16 = .ok (.aload_n 0, 1) := by decide +kernel
theorem dX7_likeOaths_17 : decode cX7_likeOaths 17 = .ok (.iload_n 2, 1) := by decide +kernel
theorem dX7_likeOaths_18 : decode cX7_likeOaths 18 = .ok (.iconst 2, 1) := by decide +kernel
theorem dX7_likeOaths_19 : decode cX7_likeOaths 19 = .ok (.invokevirtual 98, 3) := by decide +kernel
theorem dX7_likeOaths_22 : decode cX7_likeOaths 22 = .ok (.iadd, 1) := by decide +kernel
theorem dX7_likeOaths_23 : decode cX7_likeOaths 23 = .ok (.istore_n 1, 1) := by decide +kernel
theorem dX7_likeOaths_24 : decode cX7_likeOaths 24 = .ok (.iinc 2 1, 3) := by decide +kernel
theorem dX7_likeOaths_27 : decode cX7_likeOaths 27 = .ok (.goto (-23), 3) := by decide +kernel
theorem dX7_likeOaths_30 : decode cX7_likeOaths 30 = .ok (.iload_n 1, 1) := by decide +kernel
theorem dX7_likeOaths_31 : decode cX7_likeOaths 31 = .ok (.ireturn, 1) := by decide +kernel
theorem dX7_mostOfHand_0 : decode cX7_mostOfHand 0 = .ok (.aload_n 0, 1) := by decide +kernel
theorem dX7_mostOfHand_1 : decode cX7_mostOfHand 1 = .ok (.iconst (-1), 1) := by decide +kernel
theorem dX7_mostOfHand_2 : decode cX7_mostOfHand 2 = .ok (.invokevirtual 105, 3) := by decide +kernel
theorem dX7_mostOfHand_5 : decode cX7_mostOfHand 5 = .ok (.iconst 0, 1) := by decide +kernel
theorem dX7_mostOfHand_6 : decode cX7_mostOfHand 6 = .ok (.istore_n 1, 1) := by decide +kernel
theorem dX7_mostOfHand_7 : decode cX7_mostOfHand 7 = .ok (.iconst 0, 1) := by decide +kernel
theorem dX7_mostOfHand_8 : decode cX7_mostOfHand 8 = .ok (.istore_n 2, 1) := by decide +kernel
theorem dX7_mostOfHand_9 : decode cX7_mostOfHand 9 = .ok (.iload_n 2, 1) := by decide +kernel
theorem dX7_mostOfHand_10 : decode cX7_mostOfHand 10 = .ok (.aload_n 0, 1) := by decide +kernel
theorem dX7_mostOfHand_11 : decode cX7_mostOfHand 11 = .ok (.getfield 7, 3) := by decide +kernel
theorem dX7_mostOfHand_14 : decode cX7_mostOfHand 14 = .ok (.bipush 9, 2) := by decide +kernel
theorem dX7_mostOfHand_16 : decode cX7_mostOfHand 16 = .ok (.iaload, 1) := by decide +kernel
theorem dX7_mostOfHand_17 : decode cX7_mostOfHand 17 = .ok (.if_icmp .ge 62, 3) := by decide +kernel
theorem dX7_mostOfHand_20 : decode cX7_mostOfHand 20 = .ok (.iconst 0, 1) := by decide +kernel
theorem dX7_mostOfHand_21 : decode cX7_mostOfHand 21 = .ok (.istore_n 3, 1) := by decide +kernel
theorem dX7_mostOfHand_22 : decode cX7_mostOfHand 22 = .ok (.iconst 0, 1) := by decide +kernel
theorem dX7_mostOfHand_23 : decode cX7_mostOfHand 23 = .ok (.istore 4, 2) := by decide +kernel
theorem dX7_mostOfHand_25 : decode cX7_mostOfHand 25 = .ok (.iload 4, 2) := by decide +kernel
theorem dX7_mostOfHand_27 : decode cX7_mostOfHand 27 = .ok (.aload_n 0, 1) := by decide +kernel
theorem dX7_mostOfHand_28 : decode cX7_mostOfHand 28 = .ok (.getfield 7, 3) := by decide +kernel
theorem dX7_mostOfHand_31 : decode cX7_mostOfHand 31 = .ok (.bipush 9, 2) := by decide +kernel
theorem dX7_mostOfHand_33 : decode cX7_mostOfHand 33 = .ok (.iaload, 1) := by decide +kernel
theorem dX7_mostOfHand_34 : decode cX7_mostOfHand 34 = .ok (.if_icmp .ge 28, 3) := by decide +kernel
theorem dX7_mostOfHand_37 : decode cX7_mostOfHand 37 = .ok (.iload_n 3, 1) := by decide +kernel
theorem dX7_mostOfHand_38 : decode cX7_mostOfHand 38 = .ok (.aload_n 0, 1) := by decide +kernel
theorem dX7_mostOfHand_39 : decode cX7_mostOfHand 39 = .ok (.getfield 28, 3) := by decide +kernel
theorem dX7_mostOfHand_42 : decode cX7_mostOfHand 42 = .ok (.iload 4, 2) := by decide +kernel
theorem dX7_mostOfHand_44 : decode cX7_mostOfHand 44 = .ok (.iaload, 1) := by decide +kernel
theorem dX7_mostOfHand_45 : decode cX7_mostOfHand 45 = .ok (.iload_n 2, 1) := by decide +kernel
theorem dX7_mostOfHand_46 : decode cX7_mostOfHand 46 = .ok (.if_icmp .ne 7, 3) := by decide +kernel
theorem dX7_mostOfHand_49 : decode cX7_mostOfHand 49 = .ok (.iconst 1, 1) := by decide +kernel
theorem dX7_mostOfHand_50 : decode cX7_mostOfHand 50 = .ok (.goto 4, 3) := by decide +kernel
theorem dX7_mostOfHand_53 : decode cX7_mostOfHand 53 = .ok (.iconst 0, 1) := by decide +kernel
theorem dX7_mostOfHand_54 : decode cX7_mostOfHand 54 = .ok (.iadd, 1) := by decide +kernel
theorem dX7_mostOfHand_55 : decode cX7_mostOfHand 55 = .ok (.istore_n 3, 1) := by decide +kernel
theorem dX7_mostOfHand_56 : decode cX7_mostOfHand 56 = .ok (.iinc 4 1, 3) := by decide +kernel
theorem dX7_mostOfHand_59 : decode cX7_mostOfHand 59 = .ok (.goto (-34), 3) := by decide +kernel
theorem dX7_mostOfHand_62 : decode cX7_mostOfHand 62 = .ok (.iload_n 3, 1) := by decide +kernel
theorem dX7_mostOfHand_63 : decode cX7_mostOfHand 63 = .ok (.iload_n 1, 1) := by decide +kernel
theorem dX7_mostOfHand_64 : decode cX7_mostOfHand 64 = .ok (.if_icmp .le 7, 3) := by decide +kernel
theorem dX7_mostOfHand_67 : decode cX7_mostOfHand 67 = .ok (.iload_n 3, 1) := by decide +kernel
theorem dX7_mostOfHand_68 : decode cX7_mostOfHand 68 = .ok (.goto 4, 3) := by decide +kernel
theorem dX7_mostOfHand_71 : decode cX7_mostOfHand 71 = .ok (.iload_n 1, 1) := by decide +kernel
theorem dX7_mostOfHand_72 : decode cX7_mostOfHand 72 = .ok (.istore_n 1, 1) := by decide +kernel
theorem dX7_mostOfHand_73 : decode cX7_mostOfHand 73 = .ok (.iinc 2 1, 3) := by decide +kernel
theorem dX7_mostOfHand_76 : decode cX7_mostOfHand 76 = .ok (.goto (-67), 3) := by decide +kernel
theorem dX7_mostOfHand_79 : decode cX7_mostOfHand 79 = .ok (.iload_n 1, 1) := by decide +kernel
theorem dX7_mostOfHand_80 : decode cX7_mostOfHand 80 = .ok (.ireturn, 1) := by decide +kernel
theorem dX7_trembling_0 : decode cX7_trembling 0 = .ok (.iconst 0, 1) := by decide +kernel
theorem dX7_trembling_1 : decode cX7_trembling 1 = .ok (.istore_n 1, 1) := by decide +kernel
theorem dX7_trembling_2 : decode cX7_trembling 2 = .ok (.iconst 0, 1) := by decide +kernel
theorem dX7_trembling_3 : decode cX7_trembling 3 = .ok (.istore_n 2, 1) := by decide +kernel
theorem dX7_trembling_4 : decode cX7_trembling 4 = .ok (.iload_n 2, 1) := by decide +kernel
theorem dX7_trembling_5 : decode cX7_trembling 5 = .ok (.aload_n 0, 1) := by decide +kernel
theorem dX7_trembling_6 : decode cX7_trembling 6 = .ok (.getfield 7, 3) := by decide +kernel
theorem dX7_trembling_9 : decode cX7_trembling 9 = .ok (.bipush 9, 2) := by decide +kernel
theorem dX7_trembling_11 : decode cX7_trembling 11 = .ok (.iaload, 1) := by decide +kernel
theorem dX7_trembling_12 : decode cX7_trembling 12 = .ok (.if_icmp .ge 25, 3) := by decide +kernel
theorem dX7_trembling_15 : decode cX7_trembling 15 = .ok (.iload_n 1, 1) := by decide +kernel
theorem dX7_trembling_16 : decode cX7_trembling 16 = .ok (.aload_n 0, 1) := by decide +kernel
theorem dX7_trembling_17 : decode cX7_trembling 17 = .ok (.iload_n 2, 1) := by decide +kernel
theorem dX7_trembling_18 : decode cX7_trembling 18 = .ok (.invokevirtual 116, 3) := by decide +kernel
theorem dX7_trembling_21 : decode cX7_trembling 21 = .ok (.ifCond .eq 7, 3) := by decide +kernel
theorem dX7_trembling_24 : decode cX7_trembling 24 = .ok (.iconst 1, 1) := by decide +kernel
theorem dX7_trembling_25 : decode cX7_trembling 25 = .ok (.goto 4, 3) := by decide +kernel
theorem dX7_trembling_28 : decode cX7_trembling 28 = .ok (.iconst 0, 1) := by decide +kernel
theorem dX7_trembling_29 : decode cX7_trembling 29 = .ok (.iadd, 1) := by decide +kernel
theorem dX7_trembling_30 : decode cX7_trembling 30 = .ok (.istore_n 1, 1) := by decide +kernel
theorem dX7_trembling_31 : decode cX7_trembling 31 = .ok (.iinc 2 1, 3) := by decide +kernel
theorem dX7_trembling_34 : decode cX7_trembling 34 = .ok (.goto (-30), 3) := by decide +kernel
theorem dX7_trembling_37 : decode cX7_trembling 37 = .ok (.iload_n 1, 1) := by decide +kernel
theorem dX7_trembling_38 : decode cX7_trembling 38 = .ok (.ireturn, 1) := by decide +kernel
theorem dX7_likePairs_0 : decode cX7_likePairs 0 = .ok (.iconst 0, 1) := by decide +kernel
theorem dX7_likePairs_1 : decode cX7_likePairs 1 = .ok (.istore_n 1, 1) := by decide +kernel
theorem dX7_likePairs_2 : decode cX7_likePairs 2 = .ok (.iconst 0, 1) := by decide +kernel
theorem dX7_likePairs_3 : decode cX7_likePairs 3 = .ok (.istore_n 2, 1) := by decide +kernel
theorem dX7_likePairs_4 : decode cX7_likePairs 4 = .ok (.iload_n 2, 1) := by decide +kernel
theorem dX7_likePairs_5 : decode cX7_likePairs 5 = .ok (.aload_n 0, 1) := by decide +kernel
theorem dX7_likePairs_6 : decode cX7_likePairs 6 = .ok (.getfield 7, 3) := by decide +kernel
theorem dX7_likePairs_9 : decode cX7_likePairs 9 = .ok (.bipush 9, 2) := by decide +kernel
theorem dX7_likePairs_11 : decode cX7_likePairs 11 = .ok (.iaload, 1) := by decide +kernel
theorem dX7_likePairs_12 : decode cX7_likePairs 12 = .ok (.if_icmp .ge 46, 3) := by decide +kernel
theorem dX7_likePairs_15 : decode cX7_likePairs 15 = .ok (.iconst 0, 1) := by decide +kernel
theorem dX7_likePairs_16 : decode cX7_likePairs 16 = .ok (.istore_n 3, 1) := by decide +kernel
theorem dX7_likePairs_17 : decode cX7_likePairs 17 = .ok (.iload_n 3, 1) := by decide +kernel
theorem dX7_likePairs_18 : decode cX7_likePairs 18 = .ok (.iload_n 2, 1) := by decide +kernel
theorem dX7_likePairs_19 : decode cX7_likePairs 19 = .ok (.if_icmp .ge 33, 3) := by decide +kernel
theorem dX7_likePairs_22 : decode cX7_likePairs 22 = .ok (.iload_n 1, 1) := by decide +kernel
theorem dX7_likePairs_23 : decode cX7_likePairs 23 = .ok (.aload_n 0, 1) := by decide +kernel
theorem dX7_likePairs_24 : decode cX7_likePairs 24 = .ok (.iload_n 2, 1) := by decide +kernel
theorem dX7_likePairs_25 : decode cX7_likePairs 25 = .ok (.iload_n 3, 1) := by decide +kernel
theorem dX7_likePairs_26 : decode cX7_likePairs 26 = .ok (.invokevirtual 119, 3) := by decide +kernel
theorem dX7_likePairs_29 : decode cX7_likePairs 29 = .ok (.aload_n 0, 1) := by decide +kernel
theorem dX7_likePairs_30 : decode cX7_likePairs 30 = .ok (.getfield 7, 3) := by decide +kernel
theorem dX7_likePairs_33 : decode cX7_likePairs 33 = .ok (.bipush 8, 2) := by decide +kernel
theorem dX7_likePairs_35 : decode cX7_likePairs 35 = .ok (.iaload, 1) := by decide +kernel
theorem dX7_likePairs_36 : decode cX7_likePairs 36 = .ok (.if_icmp .lt 7, 3) := by decide +kernel
theorem dX7_likePairs_39 : decode cX7_likePairs 39 = .ok (.iconst 1, 1) := by decide +kernel
theorem dX7_likePairs_40 : decode cX7_likePairs 40 = .ok (.goto 4, 3) := by decide +kernel
theorem dX7_likePairs_43 : decode cX7_likePairs 43 = .ok (.iconst 0, 1) := by decide +kernel
theorem dX7_likePairs_44 : decode cX7_likePairs 44 = .ok (.iadd, 1) := by decide +kernel
theorem dX7_likePairs_45 : decode cX7_likePairs 45 = .ok (.istore_n 1, 1) := by decide +kernel
theorem dX7_likePairs_46 : decode cX7_likePairs 46 = .ok (.iinc 3 1, 3) := by decide +kernel
theorem dX7_likePairs_49 : decode cX7_likePairs 49 = .ok (.goto (-32), 3) := by decide +kernel
theorem dX7_likePairs_52 : decode cX7_likePairs 52 = .ok (.iinc 2 1, 3) := by decide +kernel
theorem dX7_likePairs_55 : decode cX7_likePairs 55 = .ok (.goto (-51), 3) := by decide +kernel
theorem dX7_likePairs_58 : decode cX7_likePairs 58 = .ok (.iload_n 1, 1) := by decide +kernel
theorem dX7_likePairs_59 : decode cX7_likePairs 59 = .ok (.ireturn, 1) := by decide +kernel
theorem dX7_tellsCount_0 : decode cX7_tellsCount 0 = .ok (.iload_n 1, 1) := by decide +kernel
theorem dX7_tellsCount_1 : decode cX7_tellsCount 1 = .ok (.tableswitch 135 0 17 #[87, 87, 97, 102, 107, 112, 117, 125, 135, 135, 135, 135, 135, 135, 135, 135, 135, 130], 87) := by decide +kernel
theorem dX7_tellsCount_88 : decode cX7_tellsCount 88 = .ok (.aload_n 0, 1) := by decide +kernel
theorem dX7_tellsCount_89 : decode cX7_tellsCount 89 = .ok (.getfield 7, 3) := by decide +kernel
theorem dX7_tellsCount_92 : decode cX7_tellsCount 92 = .ok (.bipush 9, 2) := by decide +kernel
theorem dX7_tellsCount_94 : decode cX7_tellsCount 94 = .ok (.iload_n 1, 1) := by decide +kernel
theorem dX7_tellsCount_95 : decode cX7_tellsCount 95 = .ok (.iadd, 1) := by decide +kernel
theorem dX7_tellsCount_96 : decode cX7_tellsCount 96 = .ok (.iaload, 1) := by decide +kernel
theorem dX7_tellsCount_97 : decode cX7_tellsCount 97 = .ok (.ireturn, 1) := by decide +kernel
theorem dX7_tellsCount_98 : decode cX7_tellsCount 98 = .ok (.aload_n 0, 1) := by decide +kernel
theorem dX7_tellsCount_99 : decode cX7_tellsCount 99 = .ok (.invokevirtual 224, 3) := by decide +kernel
theorem dX7_tellsCount_102 : decode cX7_tellsCount 102 = .ok (.ireturn, 1) := by decide +kernel
theorem dX7_tellsCount_103 : decode cX7_tellsCount 103 = .ok (.aload_n 0, 1) := by decide +kernel
theorem dX7_tellsCount_104 : decode cX7_tellsCount 104 = .ok (.invokevirtual 125, 3) := by decide +kernel
theorem dX7_tellsCount_107 : decode cX7_tellsCount 107 = .ok (.ireturn, 1) := by decide +kernel
theorem dX7_tellsCount_108 : decode cX7_tellsCount 108 = .ok (.aload_n 0, 1) := by decide +kernel
theorem dX7_tellsCount_109 : decode cX7_tellsCount 109 = .ok (.invokevirtual 227, 3) := by decide +kernel
theorem dX7_tellsCount_112 : decode cX7_tellsCount 112 = .ok (.ireturn, 1) := by decide +kernel
theorem dX7_tellsCount_113 : decode cX7_tellsCount 113 = .ok (.aload_n 0, 1) := by decide +kernel
theorem dX7_tellsCount_114 : decode cX7_tellsCount 114 = .ok (.invokevirtual 230, 3) := by decide +kernel
theorem dX7_tellsCount_117 : decode cX7_tellsCount 117 = .ok (.ireturn, 1) := by decide +kernel
theorem dX7_tellsCount_118 : decode cX7_tellsCount 118 = .ok (.aload_n 0, 1) := by decide +kernel
theorem dX7_tellsCount_119 : decode cX7_tellsCount 119 = .ok (.getfield 7, 3) := by decide +kernel
theorem dX7_tellsCount_122 : decode cX7_tellsCount 122 = .ok (.bipush 11, 2) := by decide +kernel
theorem dX7_tellsCount_124 : decode cX7_tellsCount 124 = .ok (.iaload, 1) := by decide +kernel
theorem dX7_tellsCount_125 : decode cX7_tellsCount 125 = .ok (.ireturn, 1) := by decide +kernel
theorem dX7_tellsCount_126 : decode cX7_tellsCount 126 = .ok (.aload_n 0, 1) := by decide +kernel
theorem dX7_tellsCount_127 : decode cX7_tellsCount 127 = .ok (.invokevirtual 233, 3) := by decide +kernel
theorem dX7_tellsCount_130 : decode cX7_tellsCount 130 = .ok (.ireturn, 1) := by decide +kernel
theorem dX7_tellsCount_131 : decode cX7_tellsCount 131 = .ok (.aload_n 0, 1) := by decide +kernel
theorem dX7_tellsCount_132 : decode cX7_tellsCount 132 = .ok (.getfield 43, 3) := by decide +kernel
theorem dX7_tellsCount_135 : decode cX7_tellsCount 135 = .ok (.ireturn, 1) := by decide +kernel
theorem dX7_tellsCount_136 : decode cX7_tellsCount 136 = .ok (.aload_n 0, 1) := by decide +kernel
theorem dX7_tellsCount_137 : decode cX7_tellsCount 137 = .ok (.getfield 7, 3) := by decide +kernel
theorem dX7_tellsCount_140 : decode cX7_tellsCount 140 = .ok (.iconst 0, 1) := by decide +kernel
theorem dX7_tellsCount_141 : decode cX7_tellsCount 141 = .ok (.iload_n 1, 1) := by decide +kernel
theorem dX7_tellsCount_142 : decode cX7_tellsCount 142 = .ok (.iadd, 1) := by decide +kernel
theorem dX7_tellsCount_143 : decode cX7_tellsCount 143 = .ok (.bipush 8, 2) := by decide +kernel
theorem dX7_tellsCount_145 : decode cX7_tellsCount 145 = .ok (.isub, 1) := by decide +kernel
theorem dX7_tellsCount_146 : decode cX7_tellsCount 146 = .ok (.iaload, 1) := by decide +kernel
theorem dX7_tellsCount_147 : decode cX7_tellsCount 147 = .ok (.ireturn, 1) := by decide +kernel
theorem dX7_count_0 : decode cX7_count 0 = .ok (.aload_n 0, 1) := by decide +kernel
theorem dX7_count_1 : decode cX7_count 1 = .ok (.iconst 0, 1) := by decide +kernel
theorem dX7_count_2 : decode cX7_count 2 = .ok (.putfield 31, 3) := by decide +kernel
theorem dX7_count_5 : decode cX7_count 5 = .ok (.iload_n 1, 1) := by decide +kernel
theorem dX7_count_6 : decode cX7_count 6 = .ok (.iconst 0, 1) := by decide +kernel
theorem dX7_count_7 : decode cX7_count 7 = .ok (.bipush 17, 2) := by decide +kernel
theorem dX7_count_9 : decode cX7_count 9 = .ok (.invokestatic 35, 3) := by decide +kernel
theorem dX7_count_12 : decode cX7_count 12 = .ok (.ifCond .eq 11, 3) := by decide +kernel
theorem dX7_count_15 : decode cX7_count 15 = .ok (.aload_n 0, 1) := by decide +kernel
theorem dX7_count_16 : decode cX7_count 16 = .ok (.iload_n 1, 1) := by decide +kernel
theorem dX7_count_17 : decode cX7_count 17 = .ok (.invokevirtual 236, 3) := by decide +kernel
theorem dX7_count_20 : decode cX7_count 20 = .ok (.goto 8, 3) := by decide +kernel
theorem dX7_count_23 : decode cX7_count 23 = .ok (.aload_n 0, 1) := by decide +kernel
theorem dX7_count_24 : decode cX7_count 24 = .ok (.iconst 1, 1) := by decide +kernel
theorem dX7_count_25 : decode cX7_count 25 = .ok (.invokevirtual 46, 3) := by decide +kernel
theorem dX7_count_28 : decode cX7_count 28 = .ok (.ireturn, 1) := by decide +kernel
theorem dX7_whyNot_0 : decode cX7_whyNot 0 = .ok (.aload_n 0, 1) := by decide +kernel
theorem dX7_whyNot_1 : decode cX7_whyNot 1 = .ok (.iconst 0, 1) := by decide +kernel
theorem dX7_whyNot_2 : decode cX7_whyNot 2 = .ok (.putfield 31, 3) := by decide +kernel
theorem dX7_whyNot_5 : decode cX7_whyNot 5 = .ok (.aload_n 0, 1) := by decide +kernel
theorem dX7_whyNot_6 : decode cX7_whyNot 6 = .ok (.iload_n 1, 1) := by decide +kernel
theorem dX7_whyNot_7 : decode cX7_whyNot 7 = .ok (.invokevirtual 142, 3) := by decide +kernel
theorem dX7_whyNot_10 : decode cX7_whyNot 10 = .ok (.ifCond .eq 21, 3) := by decide +kernel
theorem dX7_whyNot_13 : decode cX7_whyNot 13 = .ok (.aload_n 0, 1) := by decide +kernel
theorem dX7_whyNot_14 : decode cX7_whyNot 14 = .ok (.iload_n 2, 1) := by decide +kernel
theorem dX7_whyNot_15 : decode cX7_whyNot 15 = .ok (.invokevirtual 142, 3) := by decide +kernel
theorem dX7_whyNot_18 : decode cX7_whyNot 18 = .ok (.ifCond .eq 13, 3) := by decide +kernel
theorem dX7_whyNot_21 : decode cX7_whyNot 21 = .ok (.aload_n 0, 1) := by decide +kernel
theorem dX7_whyNot_22 : decode cX7_whyNot 22 = .ok (.iload_n 1, 1) := by decide +kernel
theorem dX7_whyNot_23 : decode cX7_whyNot 23 = .ok (.iload_n 2, 1) := by decide +kernel
theorem dX7_whyNot_24 : decode cX7_whyNot 24 = .ok (.iload_n 3, 1) := by decide +kernel
theorem dX7_whyNot_25 : decode cX7_whyNot 25 = .ok (.invokevirtual 154, 3) := by decide +kernel
theorem dX7_whyNot_28 : decode cX7_whyNot 28 = .ok (.goto 8, 3) := by decide +kernel
theorem dX7_whyNot_31 : decode cX7_whyNot 31 = .ok (.aload_n 0, 1) := by decide +kernel
theorem dX7_whyNot_32 : decode cX7_whyNot 32 = .ok (.iconst 1, 1) := by decide +kernel
theorem dX7_whyNot_33 : decode cX7_whyNot 33 = .ok (.invokevirtual 46, 3) := by decide +kernel
theorem dX7_whyNot_36 : decode cX7_whyNot 36 = .ok (.ireturn, 1) := by decide +kernel
theorem dX7_mostAlike_0 : decode cX7_mostAlike 0 = .ok (.iconst (-1), 1) := by decide +kernel
theorem dX7_mostAlike_1 : decode cX7_mostAlike 1 = .ok (.istore_n 2, 1) := by decide +kernel
theorem dX7_mostAlike_2 : decode cX7_mostAlike 2 = .ok (.iconst 0, 1) := by decide +kernel
theorem dX7_mostAlike_3 : decode cX7_mostAlike 3 = .ok (.istore_n 3, 1) := by decide +kernel
theorem dX7_mostAlike_4 : decode cX7_mostAlike 4 = .ok (.iload_n 3, 1) := by decide +kernel
theorem dX7_mostAlike_5 : decode cX7_mostAlike 5 = .ok (.aload_n 0, 1) := by decide +kernel
theorem dX7_mostAlike_6 : decode cX7_mostAlike 6 = .ok (.getfield 7, 3) := by decide +kernel
theorem dX7_mostAlike_9 : decode cX7_mostAlike 9 = .ok (.bipush 9, 2) := by decide +kernel
theorem dX7_mostAlike_11 : decode cX7_mostAlike 11 = .ok (.iaload, 1) := by decide +kernel
theorem dX7_mostAlike_12 : decode cX7_mostAlike 12 = .ok (.if_icmp .ge 52, 3) := by decide +kernel
theorem dX7_mostAlike_15 : decode cX7_mostAlike 15 = .ok (.iload_n 3, 1) := by decide +kernel
theorem dX7_mostAlike_16 : decode cX7_mostAlike 16 = .ok (.iload_n 1, 1) := by decide +kernel
theorem dX7_mostAlike_17 : decode cX7_mostAlike 17 = .ok (.if_icmp .eq 27, 3) := by decide +kernel
theorem dX7_mostAlike_20 : decode cX7_mostAlike 20 = .ok (.iload_n 2, 1) := by decide +kernel
theorem dX7_mostAlike_21 : decode cX7_mostAlike 21 = .ok (.iconst (-1), 1) := by decide +kernel
theorem dX7_mostAlike_22 : decode cX7_mostAlike 22 = .ok (.if_icmp .eq 18, 3) := by decide +kernel
theorem dX7_mostAlike_25 : decode cX7_mostAlike 25 = .ok (.aload_n 0, 1) := by decide +kernel
theorem dX7_mostAlike_26 : decode cX7_mostAlike 26 = .ok (.iload_n 1, 1) := by decide +kernel
theorem dX7_mostAlike_27 : decode cX7_mostAlike 27 = .ok (.iload_n 3, 1) := by decide +kernel
theorem dX7_mostAlike_28 : decode cX7_mostAlike 28 = .ok (.invokevirtual 119, 3) := by decide +kernel
theorem dX7_mostAlike_31 : decode cX7_mostAlike 31 = .ok (.aload_n 0, 1) := by decide +kernel
theorem dX7_mostAlike_32 : decode cX7_mostAlike 32 = .ok (.iload_n 1, 1) := by decide +kernel
theorem dX7_mostAlike_33 : decode cX7_mostAlike 33 = .ok (.iload_n 2, 1) := by decide +kernel
theorem dX7_mostAlike_34 : decode cX7_mostAlike 34 = .ok (.invokevirtual 119, 3) := by decide +kernel
theorem dX7_mostAlike_37 : decode cX7_mostAlike 37 = .ok (.if_icmp .le 7, 3) := by decide +kernel
theorem dX7_mostAlike_40 : decode cX7_mostAlike 40 = .ok (.iconst 1, 1) := by decide +kernel
theorem dX7_mostAlike_41 : decode cX7_mostAlike 41 = .ok (.goto 4, 3) := by decide +kernel
theorem dX7_mostAlike_44 : decode cX7_mostAlike 44 = .ok (.iconst 0, 1) := by decide +kernel
theorem dX7_mostAlike_45 : decode cX7_mostAlike 45 = .ok (.istore 4, 2) := by decide +kernel
theorem dX7_mostAlike_47 : decode cX7_mostAlike 47 = .ok (.iload 4, 2) := by decide +kernel
theorem dX7_mostAlike_49 : decode cX7_mostAlike 49 = .ok (.ifCond .eq 7, 3) := by decide +kernel
theorem dX7_mostAlike_52 : decode cX7_mostAlike 52 = .ok (.iload_n 3, 1) := by decide +kernel
theorem dX7_mostAlike_53 : decode cX7_mostAlike 53 = .ok (.goto 4, 3) := by decide +kernel
theorem dX7_mostAlike_56 : decode cX7_mostAlike 56 = .ok (.iload_n 2, 1) := by decide +kernel
theorem dX7_mostAlike_57 : decode cX7_mostAlike 57 = .ok (.istore_n 2, 1) := by decide +kernel
theorem dX7_mostAlike_58 : decode cX7_mostAlike 58 = .ok (.iinc 3 1, 3) := by decide +kernel
theorem dX7_mostAlike_61 : decode cX7_mostAlike 61 = .ok (.goto (-57), 3) := by decide +kernel
theorem dX7_mostAlike_64 : decode cX7_mostAlike 64 = .ok (.iload_n 2, 1) := by decide +kernel
theorem dX7_mostAlike_65 : decode cX7_mostAlike 65 = .ok (.ireturn, 1) := by decide +kernel
theorem dX7_nearest_0 : decode cX7_nearest 0 = .ok (.aload_n 0, 1) := by decide +kernel
theorem dX7_nearest_1 : decode cX7_nearest 1 = .ok (.iconst 0, 1) := by decide +kernel
theorem dX7_nearest_2 : decode cX7_nearest 2 = .ok (.putfield 31, 3) := by decide +kernel
theorem dX7_nearest_5 : decode cX7_nearest 5 = .ok (.aload_n 0, 1) := by decide +kernel
theorem dX7_nearest_6 : decode cX7_nearest 6 = .ok (.iload_n 1, 1) := by decide +kernel
theorem dX7_nearest_7 : decode cX7_nearest 7 = .ok (.invokevirtual 142, 3) := by decide +kernel
theorem dX7_nearest_10 : decode cX7_nearest 10 = .ok (.ifCond .eq 11, 3) := by decide +kernel
theorem dX7_nearest_13 : decode cX7_nearest 13 = .ok (.aload_n 0, 1) := by decide +kernel
theorem dX7_nearest_14 : decode cX7_nearest 14 = .ok (.iload_n 1, 1) := by decide +kernel
theorem dX7_nearest_15 : decode cX7_nearest 15 = .ok (.invokevirtual 239, 3) := by decide +kernel
theorem dX7_nearest_18 : decode cX7_nearest 18 = .ok (.goto 8, 3) := by decide +kernel
theorem dX7_nearest_21 : decode cX7_nearest 21 = .ok (.aload_n 0, 1) := by decide +kernel
theorem dX7_nearest_22 : decode cX7_nearest 22 = .ok (.iconst 1, 1) := by decide +kernel
theorem dX7_nearest_23 : decode cX7_nearest 23 = .ok (.invokevirtual 46, 3) := by decide +kernel
theorem dX7_nearest_26 : decode cX7_nearest 26 = .ok (.ireturn, 1) := by decide +kernel
theorem dX7_tolerance_0 : decode cX7_tolerance 0 = .ok (.aload_n 0, 1) := by decide +kernel
theorem dX7_tolerance_1 : decode cX7_tolerance 1 = .ok (.iload_n 1, 1) := by decide +kernel
theorem dX7_tolerance_2 : decode cX7_tolerance 2 = .ok (.iload_n 2, 1) := by decide +kernel
theorem dX7_tolerance_3 : decode cX7_tolerance 3 = .ok (.iload_n 3, 1) := by decide +kernel
theorem dX7_tolerance_4 : decode cX7_tolerance 4 = .ok (.invokevirtual 89, 3) := by decide +kernel
theorem dX7_tolerance_7 : decode cX7_tolerance 7 = .ok (.istore 4, 2) := by decide +kernel
theorem dX7_tolerance_9 : decode cX7_tolerance 9 = .ok (.aload_n 0, 1) := by decide +kernel
theorem dX7_tolerance_10 : decode cX7_tolerance 10 = .ok (.iload_n 1, 1) := by decide +kernel
theorem dX7_tolerance_11 : decode cX7_tolerance 11 = .ok (.iload_n 2, 1) := by decide +kernel
theorem dX7_tolerance_12 : decode cX7_tolerance 12 = .ok (.iload_n 3, 1) := by decide +kernel
theorem dX7_tolerance_13 : decode cX7_tolerance 13 = .ok (.invokevirtual 86, 3) := by decide +kernel
theorem dX7_tolerance_16 : decode cX7_tolerance 16 = .ok (.ifCond .eq 7, 3) := by decide +kernel
theorem dX7_tolerance_19 : decode cX7_tolerance 19 = .ok (.iconst (-1), 1) := by decide +kernel
theorem dX7_tolerance_20 : decode cX7_tolerance 20 = .ok (.goto 14, 3) := by decide +kernel
theorem dX7_tolerance_23 : decode cX7_tolerance 23 = .ok (.iload 4, 2) := by decide +kernel
theorem dX7_tolerance_25 : decode cX7_tolerance 25 = .ok (.ifCond .ge 7, 3) := by decide +kernel
theorem dX7_tolerance_28 : decode cX7_tolerance 28 = .ok (.iconst 0, 1) := by decide +kernel
theorem dX7_tolerance_29 : decode cX7_tolerance 29 = .ok (.goto 5, 3) := by decide +kernel
theorem dX7_tolerance_32 : decode cX7_tolerance 32 = .ok (.iload 4, 2) := by decide +kernel
theorem dX7_tolerance_34 : decode cX7_tolerance 34 = .ok (.ireturn, 1) := by decide +kernel
theorem dX7_toleranceFor_0 : decode cX7_toleranceFor 0 = .ok (.aload_n 0, 1) := by decide +kernel
theorem dX7_toleranceFor_1 : decode cX7_toleranceFor 1 = .ok (.iconst 0, 1) := by decide +kernel
theorem dX7_toleranceFor_2 : decode cX7_toleranceFor 2 = .ok (.putfield 31, 3) := by decide +kernel
theorem dX7_toleranceFor_5 : decode cX7_toleranceFor 5 = .ok (.aload_n 0, 1) := by decide +kernel
theorem dX7_toleranceFor_6 : decode cX7_toleranceFor 6 = .ok (.iload_n 1, 1) := by decide +kernel
theorem dX7_toleranceFor_7 : decode cX7_toleranceFor 7 = .ok (.invokevirtual 142, 3) := by decide +kernel
theorem dX7_toleranceFor_10 : decode cX7_toleranceFor 10 = .ok (.ifCond .eq 11, 3) := by decide +kernel
theorem dX7_toleranceFor_13 : decode cX7_toleranceFor 13 = .ok (.aload_n 0, 1) := by decide +kernel
theorem dX7_toleranceFor_14 : decode cX7_toleranceFor 14 = .ok (.iload_n 2, 1) := by decide +kernel
theorem dX7_toleranceFor_15 : decode cX7_toleranceFor 15 = .ok (.invokevirtual 142, 3) := by decide +kernel
theorem dX7_toleranceFor_18 : decode cX7_toleranceFor 18 = .ok (.ifCond .ne 9, 3) := by decide +kernel
theorem dX7_toleranceFor_21 : decode cX7_toleranceFor 21 = .ok (.aload_n 0, 1) := by decide +kernel
theorem dX7_toleranceFor_22 : decode cX7_toleranceFor 22 = .ok (.iconst 1, 1) := by decide +kernel
theorem dX7_toleranceFor_23 : decode cX7_toleranceFor 23 = .ok (.invokevirtual 46, 3) := by decide +kernel
theorem dX7_toleranceFor_26 : decode cX7_toleranceFor 26 = .ok (.ireturn, 1) := by decide +kernel
theorem dX7_toleranceFor_27 : decode cX7_toleranceFor 27 = .ok (.iload_n 3, 1) := by decide +kernel
theorem dX7_toleranceFor_28 : decode cX7_toleranceFor 28 = .ok (.iconst 0, 1) := by decide +kernel
theorem dX7_toleranceFor_29 : decode cX7_toleranceFor 29 = .ok (.iconst 5, 1) := by decide +kernel
theorem dX7_toleranceFor_30 : decode cX7_toleranceFor 30 = .ok (.invokestatic 35, 3) := by decide +kernel
theorem dX7_toleranceFor_33 : decode cX7_toleranceFor 33 = .ok (.ifCond .eq 13, 3) := by decide +kernel
theorem dX7_toleranceFor_36 : decode cX7_toleranceFor 36 = .ok (.aload_n 0, 1) := by decide +kernel
theorem dX7_toleranceFor_37 : decode cX7_toleranceFor 37 = .ok (.iload_n 1, 1) := by decide +kernel
theorem dX7_toleranceFor_38 : decode cX7_toleranceFor 38 = .ok (.iload_n 2, 1) := by decide +kernel
theorem dX7_toleranceFor_39 : decode cX7_toleranceFor 39 = .ok (.iload_n 3, 1) := by decide +kernel
theorem dX7_toleranceFor_40 : decode cX7_toleranceFor 40 = .ok (.invokevirtual 242, 3) := by decide +kernel
theorem dX7_toleranceFor_43 : decode cX7_toleranceFor 43 = .ok (.goto 8, 3) := by decide +kernel
theorem dX7_toleranceFor_46 : decode cX7_toleranceFor 46 = .ok (.aload_n 0, 1) := by decide +kernel
theorem dX7_toleranceFor_47 : decode cX7_toleranceFor 47 = .ok (.iconst 2, 1) := by decide +kernel
theorem dX7_toleranceFor_48 : decode cX7_toleranceFor 48 = .ok (.invokevirtual 46, 3) := by decide +kernel
theorem dX7_toleranceFor_51 : decode cX7_toleranceFor 51 = .ok (.ireturn, 1) := by decide +kernel
theorem dX7_wouldPass_0 : decode cX7_wouldPass 0 = .ok (.aload_n 0, 1) := by decide +kernel
theorem dX7_wouldPass_1 : decode cX7_wouldPass 1 = .ok (.invokevirtual 245, 3) := by decide +kernel
theorem dX7_wouldPass_4 : decode cX7_wouldPass 4 = .ok (.aload_n 0, 1) := by decide +kernel
theorem dX7_wouldPass_5 : decode cX7_wouldPass 5 = .ok (.iload_n 3, 1) := by decide +kernel
theorem dX7_wouldPass_6 : decode cX7_wouldPass 6 = .ok (.invokevirtual 148, 3) := by decide +kernel
theorem dX7_wouldPass_9 : decode cX7_wouldPass 9 = .ok (.istore 4, 2) := by decide +kernel
theorem dX7_wouldPass_11 : decode cX7_wouldPass 11 = .ok (.iload 4, 2) := by decide +kernel
theorem dX7_wouldPass_13 : decode cX7_wouldPass 13 = .ok (.iconst (-1), 1) := by decide +kernel
theorem dX7_wouldPass_14 : decode cX7_wouldPass 14 = .ok (.if_icmp .ne 7, 3) := by decide +kernel
theorem dX7_wouldPass_17 : decode cX7_wouldPass 17 = .ok (.iconst 0, 1) := by decide +kernel
theorem dX7_wouldPass_18 : decode cX7_wouldPass 18 = .ok (.goto 9, 3) := by decide +kernel
theorem dX7_wouldPass_21 : decode cX7_wouldPass 21 = .ok (.aload_n 0, 1) := by decide +kernel
theorem dX7_wouldPass_22 : decode cX7_wouldPass 22 = .ok (.iload_n 1, 1) := by decide +kernel
theorem dX7_wouldPass_23 : decode cX7_wouldPass 23 = .ok (.iload_n 2, 1) := by decide +kernel
theorem dX7_wouldPass_24 : decode cX7_wouldPass 24 = .ok (.invokevirtual 119, 3) := by decide +kernel
theorem dX7_wouldPass_27 : decode cX7_wouldPass 27 = .ok (.istore 5, 2) := by decide +kernel
theorem dX7_wouldPass_29 : decode cX7_wouldPass 29 = .ok (.aload_n 0, 1) := by decide +kernel
theorem dX7_wouldPass_30 : decode cX7_wouldPass 30 = .ok (.invokevirtual 248, 3) := by decide +kernel
theorem dX7_wouldPass_33 : decode cX7_wouldPass 33 = .ok (.iload 5, 2) := by decide +kernel
theorem dX7_wouldPass_35 : decode cX7_wouldPass 35 = .ok (.ireturn, 1) := by decide +kernel
theorem dX7_ifPassed_0 : decode cX7_ifPassed 0 = .ok (.aload_n 0, 1) := by decide +kernel
theorem dX7_ifPassed_1 : decode cX7_ifPassed 1 = .ok (.iconst 0, 1) := by decide +kernel
theorem dX7_ifPassed_2 : decode cX7_ifPassed 2 = .ok (.putfield 31, 3) := by decide +kernel
theorem dX7_ifPassed_5 : decode cX7_ifPassed 5 = .ok (.aload_n 0, 1) := by decide +kernel
theorem dX7_ifPassed_6 : decode cX7_ifPassed 6 = .ok (.iload_n 1, 1) := by decide +kernel
theorem dX7_ifPassed_7 : decode cX7_ifPassed 7 = .ok (.invokevirtual 142, 3) := by decide +kernel
theorem dX7_ifPassed_10 : decode cX7_ifPassed 10 = .ok (.ifCond .eq 11, 3) := by decide +kernel
theorem dX7_ifPassed_13 : decode cX7_ifPassed 13 = .ok (.aload_n 0, 1) := by decide +kernel
theorem dX7_ifPassed_14 : decode cX7_ifPassed 14 = .ok (.iload_n 2, 1) := by decide +kernel
theorem dX7_ifPassed_15 : decode cX7_ifPassed 15 = .ok (.invokevirtual 142, 3) := by decide +kernel
theorem dX7_ifPassed_18 : decode cX7_ifPassed 18 = .ok (.ifCond .ne 9, 3) := by decide +kernel
theorem dX7_ifPassed_21 : decode cX7_ifPassed 21 = .ok (.aload_n 0, 1) := by decide +kernel
theorem dX7_ifPassed_22 : decode cX7_ifPassed 22 = .ok (.iconst 1, 1) := by decide +kernel
theorem dX7_ifPassed_23 : decode cX7_ifPassed 23 = .ok (.invokevirtual 46, 3) := by decide +kernel
theorem dX7_ifPassed_26 : decode cX7_ifPassed 26 = .ok (.ireturn, 1) := by decide +kernel
theorem dX7_ifPassed_27 : decode cX7_ifPassed 27 = .ok (.iload_n 3, 1) := by decide +kernel
theorem dX7_ifPassed_28 : decode cX7_ifPassed 28 = .ok (.iconst 1, 1) := by decide +kernel
theorem dX7_ifPassed_29 : decode cX7_ifPassed 29 = .ok (.bipush 99, 2) := by decide +kernel
theorem dX7_ifPassed_31 : decode cX7_ifPassed 31 = .ok (.invokestatic 35, 3) := by decide +kernel
theorem dX7_ifPassed_34 : decode cX7_ifPassed 34 = .ok (.ifCond .eq 13, 3) := by decide +kernel
theorem dX7_ifPassed_37 : decode cX7_ifPassed 37 = .ok (.aload_n 0, 1) := by decide +kernel
theorem dX7_ifPassed_38 : decode cX7_ifPassed 38 = .ok (.iload_n 1, 1) := by decide +kernel
theorem dX7_ifPassed_39 : decode cX7_ifPassed 39 = .ok (.iload_n 2, 1) := by decide +kernel
theorem dX7_ifPassed_40 : decode cX7_ifPassed 40 = .ok (.iload_n 3, 1) := by decide +kernel
theorem dX7_ifPassed_41 : decode cX7_ifPassed 41 = .ok (.invokevirtual 251, 3) := by decide +kernel
theorem dX7_ifPassed_44 : decode cX7_ifPassed 44 = .ok (.goto 8, 3) := by decide +kernel
theorem dX7_ifPassed_47 : decode cX7_ifPassed 47 = .ok (.aload_n 0, 1) := by decide +kernel
theorem dX7_ifPassed_48 : decode cX7_ifPassed 48 = .ok (.iconst 2, 1) := by decide +kernel
theorem dX7_ifPassed_49 : decode cX7_ifPassed 49 = .ok (.invokevirtual 46, 3) := by decide +kernel
theorem dX7_ifPassed_52 : decode cX7_ifPassed 52 = .ok (.ireturn, 1) := by decide +kernel
theorem dX7_share_0 : decode cX7_share 0 = .ok (.aload_n 0, 1) := by decide +kernel
theorem dX7_share_1 : decode cX7_share 1 = .ok (.iconst (-1), 1) := by decide +kernel
theorem dX7_share_2 : decode cX7_share 2 = .ok (.invokevirtual 105, 3) := by decide +kernel
theorem dX7_share_5 : decode cX7_share 5 = .ok (.iconst 0, 1) := by decide +kernel
theorem dX7_share_6 : decode cX7_share 6 = .ok (.istore_n 1, 1) := by decide +kernel
theorem dX7_share_7 : decode cX7_share 7 = .ok (.iconst 0, 1) := by decide +kernel
theorem dX7_share_8 : decode cX7_share 8 = .ok (.istore_n 2, 1) := by decide +kernel
theorem dX7_share_9 : decode cX7_share 9 = .ok (.iconst 0, 1) := by decide +kernel
theorem dX7_share_10 : decode cX7_share 10 = .ok (.istore_n 3, 1) := by decide +kernel
theorem dX7_share_11 : decode cX7_share 11 = .ok (.iload_n 3, 1) := by decide +kernel
theorem dX7_share_12 : decode cX7_share 12 = .ok (.aload_n 0, 1) := by decide +kernel
theorem dX7_share_13 : decode cX7_share 13 = .ok (.getfield 7, 3) := by decide +kernel
theorem dX7_share_16 : decode cX7_share 16 = .ok (.bipush 9, 2) := by decide +kernel
theorem dX7_share_18 : decode cX7_share 18 = .ok (.iaload, 1) := by decide +kernel
theorem dX7_share_19 : decode cX7_share 19 = .ok (.if_icmp .ge 79, 3) := by decide +kernel
theorem dX7_share_22 : decode cX7_share 22 = .ok (.iconst 0, 1) := by decide +kernel
theorem dX7_share_23 : decode cX7_share 23 = .ok (.istore 4, 2) := by decide +kernel
theorem dX7_share_25 : decode cX7_share 25 = .ok (.iload 4, 2) := by decide +kernel
theorem dX7_share_27 : decode cX7_share 27 = .ok (.iload_n 3, 1) := by decide +kernel
theorem dX7_share_28 : decode cX7_share 28 = .ok (.if_icmp .ge 64, 3) := by decide +kernel
theorem dX7_share_31 : decode cX7_share 31 = .ok (.aload_n 0, 1) := by decide +kernel
theorem dX7_share_32 : decode cX7_share 32 = .ok (.getfield 28, 3) := by decide +kernel
theorem dX7_share_35 : decode cX7_share 35 = .ok (.iload_n 3, 1) := by decide +kernel
theorem dX7_share_36 : decode cX7_share 36 = .ok (.iaload, 1) := by decide +kernel
theorem dX7_share_37 : decode cX7_share 37 = .ok (.aload_n 0, 1) := by decide +kernel
theorem dX7_share_38 : decode cX7_share 38 = .ok (.getfield 28, 3) := by decide +kernel
theorem dX7_share_41 : decode cX7_share 41 = .ok (.iload 4, 2) := by decide +kernel
theorem dX7_share_43 : decode cX7_share 43 = .ok (.iaload, 1) := by decide +kernel
theorem dX7_share_44 : decode cX7_share 44 = .ok (.if_icmp .ne 7, 3) := by decide +kernel
theorem dX7_share_47 : decode cX7_share 47 = .ok (.iconst 1, 1) := by decide +kernel
theorem dX7_share_48 : decode cX7_share 48 = .ok (.goto 4, 3) := by decide +kernel
theorem dX7_share_51 : decode cX7_share 51 = .ok (.iconst 0, 1) := by decide +kernel
theorem dX7_share_52 : decode cX7_share 52 = .ok (.istore 5, 2) := by decide +kernel
theorem dX7_share_54 : decode cX7_share 54 = .ok (.iload_n 1, 1) := by decide +kernel
theorem dX7_share_55 : decode cX7_share 55 = .ok (.iload 5, 2) := by decide +kernel
theorem dX7_share_57 : decode cX7_share 57 = .ok (.ifCond .eq 13, 3) := by decide +kernel
theorem dX7_share_60 : decode cX7_share 60 = .ok (.aload_n 0, 1) := by decide +kernel
theorem dX7_share_61 : decode cX7_share 61 = .ok (.iload_n 3, 1) := by decide +kernel
theorem dX7_share_62 : decode cX7_share 62 = .ok (.iload 4, 2) := by decide +kernel
theorem dX7_share_64 : decode cX7_share 64 = .ok (.invokevirtual 119, 3) := by decide +kernel
theorem dX7_share_67 : decode cX7_share 67 = .ok (.goto 4, 3) := by decide +kernel
theorem dX7_share_70 : decode cX7_share 70 = .ok (.iconst 0, 1) := by decide +kernel
theorem dX7_share_71 : decode cX7_share 71 = .ok (.iadd, 1) := by decide +kernel
theorem dX7_share_72 : decode cX7_share 72 = .ok (.istore_n 1, 1) := by decide +kernel
theorem dX7_share_73 : decode cX7_share 73 = .ok (.iload_n 2, 1) := by decide +kernel
theorem dX7_share_74 : decode cX7_share 74 = .ok (.iload 5, 2) := by decide +kernel
theorem dX7_share_76 : decode cX7_share 76 = .ok (.ifCond .eq 7, 3) := by decide +kernel
theorem dX7_share_79 : decode cX7_share 79 = .ok (.iconst 1, 1) := by decide +kernel
theorem dX7_share_80 : decode cX7_share 80 = .ok (.goto 4, 3) := by decide +kernel
theorem dX7_share_83 : decode cX7_share 83 = .ok (.iconst 0, 1) := by decide +kernel
theorem dX7_share_84 : decode cX7_share 84 = .ok (.iadd, 1) := by decide +kernel
theorem dX7_share_85 : decode cX7_share 85 = .ok (.istore_n 2, 1) := by decide +kernel
theorem dX7_share_86 : decode cX7_share 86 = .ok (.iinc 4 1, 3) := by decide +kernel
theorem dX7_share_89 : decode cX7_share 89 = .ok (.goto (-64), 3) := by decide +kernel
theorem dX7_share_92 : decode cX7_share 92 = .ok (.iinc 3 1, 3) := by decide +kernel
theorem dX7_share_95 : decode cX7_share 95 = .ok (.goto (-84), 3) := by decide +kernel
theorem dX7_share_98 : decode cX7_share 98 = .ok (.iload_n 2, 1) := by decide +kernel
theorem dX7_share_99 : decode cX7_share 99 = .ok (.ifCond .ne 7, 3) := by decide +kernel
theorem dX7_share_102 : decode cX7_share 102 = .ok (.dconst 1, 1) := by decide +kernel
theorem dX7_share_103 : decode cX7_share 103 = .ok (.goto 11, 3) := by decide +kernel
theorem dX7_share_106 : decode cX7_share 106 = .ok (.iload_n 1, 1) := by decide +kernel
theorem dX7_share_107 : decode cX7_share 107 = .ok (.i2d, 1) := by decide +kernel
theorem dX7_share_108 : decode cX7_share 108 = .ok (.bipush 6, 2) := by decide +kernel
theorem dX7_share_110 : decode cX7_share 110 = .ok (.iload_n 2, 1) := by decide +kernel
theorem dX7_share_111 : decode cX7_share 111 = .ok (.imul, 1) := by decide +kernel
theorem dX7_share_112 : decode cX7_share 112 = .ok (.i2d, 1) := by decide +kernel
theorem dX7_share_113 : decode cX7_share 113 = .ok (.ddiv, 1) := by decide +kernel
theorem dX7_share_114 : decode cX7_share 114 = .ok (.dreturn, 1) := by decide +kernel
theorem dX7_handShare_0 : decode cX7_handShare 0 = .ok (.aload_n 0, 1) := by decide +kernel
theorem dX7_handShare_1 : decode cX7_handShare 1 = .ok (.iconst 0, 1) := by decide +kernel
theorem dX7_handShare_2 : decode cX7_handShare 2 = .ok (.putfield 31, 3) := by decide +kernel
theorem dX7_handShare_5 : decode cX7_handShare 5 = .ok (.aload_n 0, 1) := by decide +kernel
theorem dX7_handShare_6 : decode cX7_handShare 6 = .ok (.invokevirtual 254, 3) := by decide +kernel
theorem dX7_handShare_9 : decode cX7_handShare 9 = .ok (.dreturn, 1) := by decide +kernel
theorem dX7_mix_0 : decode cX7_mix 0 = .ok (.aload_n 0, 1) := by decide +kernel
theorem dX7_mix_1 : decode cX7_mix 1 = .ok (.ldc2_w 258, 3) := by decide +kernel
theorem dX7_mix_4 : decode cX7_mix 4 = .ok (.aload_n 0, 1) := by decide +kernel
theorem dX7_mix_5 : decode cX7_mix 5 = .ok (.getfield 260, 3) := by decide +kernel
theorem dX7_mix_8 : decode cX7_mix 8 = .ok (.lmul, 1) := by decide +kernel
theorem dX7_mix_9 : decode cX7_mix 9 = .ok (.lload_n 1, 1) := by decide +kernel
theorem dX7_mix_10 : decode cX7_mix 10 = .ok (.ladd, 1) := by decide +kernel
theorem dX7_mix_11 : decode cX7_mix 11 = .ok (.putfield 260, 3) := by decide +kernel
theorem dX7_mix_14 : decode cX7_mix 14 = .ok (.return_, 1) := by decide +kernel
theorem dX7_mixSheet_0 : decode cX7_mixSheet 0 = .ok (.iconst 0, 1) := by decide +kernel
theorem dX7_mixSheet_1 : decode cX7_mixSheet 1 = .ok (.istore_n 2, 1) := by decide +kernel
theorem dX7_mixSheet_2 : decode cX7_mixSheet 2 = .ok (.iload_n 2, 1) := by decide +kernel
theorem dX7_mixSheet_3 : decode cX7_mixSheet 3 = .ok (.bipush 7, 2) := by decide +kernel
theorem dX7_mixSheet_5 : decode cX7_mixSheet 5 = .ok (.if_icmp .ge 20, 3) := by decide +kernel
theorem dX7_mixSheet_8 : decode cX7_mixSheet 8 = .ok (.aload_n 0, 1) := by decide +kernel
theorem dX7_mixSheet_9 : decode cX7_mixSheet 9 = .ok (.aload_n 0, 1) := by decide +kernel
theorem dX7_mixSheet_10 : decode cX7_mixSheet 10 = .ok (.iload_n 1, 1) := by decide +kernel
theorem dX7_mixSheet_11 : decode cX7_mixSheet 11 = .ok (.iload_n 2, 1) := by decide +kernel
theorem dX7_mixSheet_12 : decode cX7_mixSheet 12 = .ok (.invokevirtual 206, 3) := by decide +kernel
theorem dX7_mixSheet_15 : decode cX7_mixSheet 15 = .ok (.i2l, 1) := by decide +kernel
theorem dX7_mixSheet_16 : decode cX7_mixSheet 16 = .ok (.invokevirtual 264, 3) := by decide +kernel
theorem dX7_mixSheet_19 : decode cX7_mixSheet 19 = .ok (.iinc 2 1, 3) := by decide +kernel
theorem dX7_mixSheet_22 : decode cX7_mixSheet 22 = .ok (.goto (-20), 3) := by decide +kernel
theorem dX7_mixSheet_25 : decode cX7_mixSheet 25 = .ok (.iconst 0, 1) := by decide +kernel
theorem dX7_mixSheet_26 : decode cX7_mixSheet 26 = .ok (.istore_n 2, 1) := by decide +kernel
theorem dX7_mixSheet_27 : decode cX7_mixSheet 27 = .ok (.iload_n 2, 1) := by decide +kernel
theorem dX7_mixSheet_28 : decode cX7_mixSheet 28 = .ok (.iconst 5, 1) := by decide +kernel
theorem dX7_mixSheet_29 : decode cX7_mixSheet 29 = .ok (.aload_n 0, 1) := by decide +kernel
theorem dX7_mixSheet_30 : decode cX7_mixSheet 30 = .ok (.iload_n 1, 1) := by decide +kernel
theorem dX7_mixSheet_31 : decode cX7_mixSheet 31 = .ok (.iconst 1, 1) := by decide +kernel
theorem dX7_mixSheet_32 : decode cX7_mixSheet 32 = .ok (.invokevirtual 39, 3) := by decide +kernel
theorem dX7_mixSheet_35 : decode cX7_mixSheet 35 = .ok (.imul, 1) := by decide +kernel
theorem dX7_mixSheet_36 : decode cX7_mixSheet 36 = .ok (.if_icmp .ge 25, 3) := by decide +kernel
theorem dX7_mixSheet_39 : decode cX7_mixSheet 39 = .ok (.aload_n 0, 1) := by decide +kernel
theorem dX7_mixSheet_40 : decode cX7_mixSheet 40 = .ok (.aload_n 0, 1) := by decide +kernel
theorem dX7_mixSheet_41 : decode cX7_mixSheet 41 = .ok (.iload_n 1, 1) := by decide +kernel
theorem dX7_mixSheet_42 : decode cX7_mixSheet 42 = .ok (.iload_n 2, 1) := by decide +kernel
theorem dX7_mixSheet_43 : decode cX7_mixSheet 43 = .ok (.iconst 5, 1) := by decide +kernel
theorem dX7_mixSheet_44 : decode cX7_mixSheet 44 = .ok (.idiv, 1) := by decide +kernel
theorem dX7_mixSheet_45 : decode cX7_mixSheet 45 = .ok (.iload_n 2, 1) := by decide +kernel
theorem dX7_mixSheet_46 : decode cX7_mixSheet 46 = .ok (.iconst 5, 1) := by decide +kernel
theorem dX7_mixSheet_47 : decode cX7_mixSheet 47 = .ok (.irem, 1) := by decide +kernel
theorem dX7_mixSheet_48 : decode cX7_mixSheet 48 = .ok (.invokevirtual 209, 3) := by decide +kernel
theorem dX7_mixSheet_51 : decode cX7_mixSheet 51 = .ok (.i2l, 1) := by decide +kernel
theorem dX7_mixSheet_52 : decode cX7_mixSheet 52 = .ok (.invokevirtual 264, 3) := by decide +kernel
theorem dX7_mixSheet_55 : decode cX7_mixSheet 55 = .ok (.iinc 2 1, 3) := by decide +kernel
theorem dX7_mixSheet_58 : decode cX7_mixSheet 58 = .ok (.goto (-31), 3) := by decide +kernel
theorem dX7_mixSheet_61 : decode cX7_mixSheet 61 = .ok (.iconst 0, 1) := by decide +kernel
theorem dX7_mixSheet_62 : decode cX7_mixSheet 62 = .ok (.istore_n 2, 1) := by decide +kernel
theorem dX7_mixSheet_63 : decode cX7_mixSheet 63 = .ok (.iload_n 2, 1) := by decide +kernel
theorem dX7_mixSheet_64 : decode cX7_mixSheet 64 = .ok (.bipush 6, 2) := by decide +kernel
theorem dX7_mixSheet_66 : decode cX7_mixSheet 66 = .ok (.if_icmp .ge 24, 3) := by decide +kernel
theorem dX7_mixSheet_69 : decode cX7_mixSheet 69 = .ok (.aload_n 0, 1) := by decide +kernel
theorem dX7_mixSheet_70 : decode cX7_mixSheet 70 = .ok (.aload_n 0, 1) := by decide +kernel
theorem dX7_mixSheet_71 : decode cX7_mixSheet 71 = .ok (.iload_n 1, 1) := by decide +kernel
theorem dX7_mixSheet_72 : decode cX7_mixSheet 72 = .ok (.iload_n 2, 1) := by decide +kernel
theorem dX7_mixSheet_73 : decode cX7_mixSheet 73 = .ok (.invokevirtual 83, 3) := by decide +kernel
theorem dX7_mixSheet_76 : decode cX7_mixSheet 76 = .ok (.sipush 1000, 3) := by decide +kernel
theorem dX7_mixSheet_79 : decode cX7_mixSheet 79 = .ok (.iadd, 1) := by decide +kernel
theorem dX7_mixSheet_80 : decode cX7_mixSheet 80 = .ok (.i2l, 1) := by decide +kernel
theorem dX7_mixSheet_81 : decode cX7_mixSheet 81 = .ok (.invokevirtual 264, 3) := by decide +kernel
theorem dX7_mixSheet_84 : decode cX7_mixSheet 84 = .ok (.iinc 2 1, 3) := by decide +kernel
theorem dX7_mixSheet_87 : decode cX7_mixSheet 87 = .ok (.goto (-24), 3) := by decide +kernel
theorem dX7_mixSheet_90 : decode cX7_mixSheet 90 = .ok (.aload_n 0, 1) := by decide +kernel
theorem dX7_mixSheet_91 : decode cX7_mixSheet 91 = .ok (.aload_n 0, 1) := by decide +kernel
theorem dX7_mixSheet_92 : decode cX7_mixSheet 92 = .ok (.iload_n 1, 1) := by decide +kernel
theorem dX7_mixSheet_93 : decode cX7_mixSheet 93 = .ok (.invokevirtual 239, 3) := by decide +kernel
theorem dX7_mixSheet_96 : decode cX7_mixSheet 96 = .ok (.i2l, 1) := by decide +kernel
theorem dX7_mixSheet_97 : decode cX7_mixSheet 97 = .ok (.invokevirtual 264, 3) := by decide +kernel
theorem dX7_mixSheet_100 : decode cX7_mixSheet 100 = .ok (.iconst 0, 1) := by decide +kernel
theorem dX7_mixSheet_101 : decode cX7_mixSheet 101 = .ok (.istore_n 2, 1) := by decide +kernel
theorem dX7_mixSheet_102 : decode cX7_mixSheet 102 = .ok (.iload_n 2, 1) := by decide +kernel
theorem dX7_mixSheet_103 : decode cX7_mixSheet 103 = .ok (.aload_n 0, 1) := by decide +kernel
theorem dX7_mixSheet_104 : decode cX7_mixSheet 104 = .ok (.getfield 7, 3) := by decide +kernel
theorem dX7_mixSheet_107 : decode cX7_mixSheet 107 = .ok (.bipush 9, 2) := by decide +kernel
theorem dX7_mixSheet_109 : decode cX7_mixSheet 109 = .ok (.iaload, 1) := by decide +kernel
theorem dX7_mixSheet_110 : decode cX7_mixSheet 110 = .ok (.if_icmp .ge 58, 3) := by decide +kernel
theorem dX7_mixSheet_113 : decode cX7_mixSheet 113 = .ok (.iconst 0, 1) := by decide +kernel
theorem dX7_mixSheet_114 : decode cX7_mixSheet 114 = .ok (.istore_n 3, 1) := by decide +kernel
theorem dX7_mixSheet_115 : decode cX7_mixSheet 115 = .ok (.iload_n 3, 1) := by decide +kernel
theorem dX7_mixSheet_116 : decode cX7_mixSheet 116 = .ok (.iconst 5, 1) := by decide +kernel
theorem dX7_mixSheet_117 : decode cX7_mixSheet 117 = .ok (.if_icmp .ge 21, 3) := by decide +kernel
theorem dX7_mixSheet_120 : decode cX7_mixSheet 120 = .ok (.aload_n 0, 1) := by decide +kernel
theorem dX7_mixSheet_121 : decode cX7_mixSheet 121 = .ok (.aload_n 0, 1) := by decide +kernel
theorem dX7_mixSheet_122 : decode cX7_mixSheet 122 = .ok (.iload_n 1, 1) := by decide +kernel
theorem dX7_mixSheet_123 : decode cX7_mixSheet 123 = .ok (.iload_n 2, 1) := by decide +kernel
theorem dX7_mixSheet_124 : decode cX7_mixSheet 124 = .ok (.iload_n 3, 1) := by decide +kernel
theorem dX7_mixSheet_125 : decode cX7_mixSheet 125 = .ok (.invokevirtual 215, 3) := by decide +kernel
theorem dX7_mixSheet_128 : decode cX7_mixSheet 128 = .ok (.i2l, 1) := by decide +kernel
theorem dX7_mixSheet_129 : decode cX7_mixSheet 129 = .ok (.invokevirtual 264, 3) := by decide +kernel
theorem dX7_mixSheet_132 : decode cX7_mixSheet 132 = .ok (.iinc 3 1, 3) := by decide +kernel
theorem dX7_mixSheet_135 : decode cX7_mixSheet 135 = .ok (.goto (-20), 3) := by decide +kernel
theorem dX7_mixSheet_138 : decode cX7_mixSheet 138 = .ok (.aload_n 0, 1) := by decide +kernel
theorem dX7_mixSheet_139 : decode cX7_mixSheet 139 = .ok (.aload_n 0, 1) := by decide +kernel
theorem dX7_mixSheet_140 : decode cX7_mixSheet 140 = .ok (.iload_n 1, 1) := by decide +kernel
theorem dX7_mixSheet_141 : decode cX7_mixSheet 141 = .ok (.iload_n 2, 1) := by decide +kernel
theorem dX7_mixSheet_142 : decode cX7_mixSheet 142 = .ok (.iconst 1, 1) := by decide +kernel
theorem dX7_mixSheet_143 : decode cX7_mixSheet 143 = .ok (.invokevirtual 154, 3) := by decide +kernel
theorem dX7_mixSheet_146 : decode cX7_mixSheet 146 = .ok (.i2l, 1) := by decide +kernel
theorem dX7_mixSheet_147 : decode cX7_mixSheet 147 = .ok (.invokevirtual 264, 3) := by decide +kernel
theorem dX7_mixSheet_150 : decode cX7_mixSheet 150 = .ok (.aload_n 0, 1) := by decide +kernel
theorem dX7_mixSheet_151 : decode cX7_mixSheet 151 = .ok (.aload_n 0, 1) := by decide +kernel
theorem dX7_mixSheet_152 : decode cX7_mixSheet 152 = .ok (.iload_n 1, 1) := by decide +kernel
theorem dX7_mixSheet_153 : decode cX7_mixSheet 153 = .ok (.iload_n 2, 1) := by decide +kernel
theorem dX7_mixSheet_154 : decode cX7_mixSheet 154 = .ok (.iconst 0, 1) := by decide +kernel
theorem dX7_mixSheet_155 : decode cX7_mixSheet 155 = .ok (.invokevirtual 154, 3) := by decide +kernel
theorem dX7_mixSheet_158 : decode cX7_mixSheet 158 = .ok (.i2l, 1) := by decide +kernel
theorem dX7_mixSheet_159 : decode cX7_mixSheet 159 = .ok (.invokevirtual 264, 3) := by decide +kernel
theorem dX7_mixSheet_162 : decode cX7_mixSheet 162 = .ok (.iinc 2 1, 3) := by decide +kernel
theorem dX7_mixSheet_165 : decode cX7_mixSheet 165 = .ok (.goto (-63), 3) := by decide +kernel
theorem dX7_mixSheet_168 : decode cX7_mixSheet 168 = .ok (.return_, 1) := by decide +kernel
theorem dX7_digest_0 : decode cX7_digest 0 = .ok (.aload_n 0, 1) := by decide +kernel
theorem dX7_digest_1 : decode cX7_digest 1 = .ok (.iconst 0, 1) := by decide +kernel
theorem dX7_digest_2 : decode cX7_digest 2 = .ok (.putfield 31, 3) := by decide +kernel
theorem dX7_digest_5 : decode cX7_digest 5 = .ok (.aload_n 0, 1) := by decide +kernel
theorem dX7_digest_6 : decode cX7_digest 6 = .ok (.ldc2_w 268, 3) := by decide +kernel
theorem dX7_digest_9 : decode cX7_digest 9 = .ok (.putfield 260, 3) := by decide +kernel
theorem dX7_digest_12 : decode cX7_digest 12 = .ok (.iconst 0, 1) := by decide +kernel
theorem dX7_digest_13 : decode cX7_digest 13 = .ok (.istore_n 1, 1) := by decide +kernel
theorem dX7_digest_14 : decode cX7_digest 14 = .ok (.iload_n 1, 1) := by decide +kernel
theorem dX7_digest_15 : decode cX7_digest 15 = .ok (.bipush 18, 2) := by decide +kernel
theorem dX7_digest_17 : decode cX7_digest 17 = .ok (.if_icmp .ge 19, 3) := by decide +kernel
theorem dX7_digest_20 : decode cX7_digest 20 = .ok (.aload_n 0, 1) := by decide +kernel
theorem dX7_digest_21 : decode cX7_digest 21 = .ok (.aload_n 0, 1) := by decide +kernel
theorem dX7_digest_22 : decode cX7_digest 22 = .ok (.iload_n 1, 1) := by decide +kernel
theorem dX7_digest_23 : decode cX7_digest 23 = .ok (.invokevirtual 236, 3) := by decide +kernel
theorem dX7_digest_26 : decode cX7_digest 26 = .ok (.i2l, 1) := by decide +kernel
theorem dX7_digest_27 : decode cX7_digest 27 = .ok (.invokevirtual 264, 3) := by decide +kernel
theorem dX7_digest_30 : decode cX7_digest 30 = .ok (.iinc 1 1, 3) := by decide +kernel
theorem dX7_digest_33 : decode cX7_digest 33 = .ok (.goto (-19), 3) := by decide +kernel
theorem dX7_digest_36 : decode cX7_digest 36 = .ok (.iconst 0, 1) := by decide +kernel
theorem dX7_digest_37 : decode cX7_digest 37 = .ok (.istore_n 1, 1) := by decide +kernel
theorem dX7_digest_38 : decode cX7_digest 38 = .ok (.iload_n 1, 1) := by decide +kernel
theorem dX7_digest_39 : decode cX7_digest 39 = .ok (.aload_n 0, 1) := by decide +kernel
theorem dX7_digest_40 : decode cX7_digest 40 = .ok (.getfield 7, 3) := by decide +kernel
theorem dX7_digest_43 : decode cX7_digest 43 = .ok (.bipush 9, 2) := by decide +kernel
theorem dX7_digest_45 : decode cX7_digest 45 = .ok (.iaload, 1) := by decide +kernel
theorem dX7_digest_46 : decode cX7_digest 46 = .ok (.if_icmp .ge 14, 3) := by decide +kernel
theorem dX7_digest_49 : decode cX7_digest 49 = .ok (.aload_n 0, 1) := by decide +kernel
theorem dX7_digest_50 : decode cX7_digest 50 = .ok (.iload_n 1, 1) := by decide +kernel
theorem dX7_digest_51 : decode cX7_digest 51 = .ok (.invokevirtual 270, 3) := by decide +kernel
theorem dX7_digest_54 : decode cX7_digest 54 = .ok (.iinc 1 1, 3) := by decide +kernel
theorem dX7_digest_57 : decode cX7_digest 57 = .ok (.goto (-19), 3) := by decide +kernel
theorem dX7_digest_60 : decode cX7_digest 60 = .ok (.iconst 0, 1) := by decide +kernel
theorem dX7_digest_61 : decode cX7_digest 61 = .ok (.istore_n 1, 1) := by decide +kernel
theorem dX7_digest_62 : decode cX7_digest 62 = .ok (.iload_n 1, 1) := by decide +kernel
theorem dX7_digest_63 : decode cX7_digest 63 = .ok (.iconst 4, 1) := by decide +kernel
theorem dX7_digest_64 : decode cX7_digest 64 = .ok (.aload_n 0, 1) := by decide +kernel
theorem dX7_digest_65 : decode cX7_digest 65 = .ok (.getfield 7, 3) := by decide +kernel
theorem dX7_digest_68 : decode cX7_digest 68 = .ok (.bipush 10, 2) := by decide +kernel
theorem dX7_digest_70 : decode cX7_digest 70 = .ok (.iaload, 1) := by decide +kernel
theorem dX7_digest_71 : decode cX7_digest 71 = .ok (.imul, 1) := by decide +kernel
theorem dX7_digest_72 : decode cX7_digest 72 = .ok (.if_icmp .ge 24, 3) := by decide +kernel
theorem dX7_digest_75 : decode cX7_digest 75 = .ok (.aload_n 0, 1) := by decide +kernel
theorem dX7_digest_76 : decode cX7_digest 76 = .ok (.aload_n 0, 1) := by decide +kernel
theorem dX7_digest_77 : decode cX7_digest 77 = .ok (.iload_n 1, 1) := by decide +kernel
theorem dX7_digest_78 : decode cX7_digest 78 = .ok (.iconst 4, 1) := by decide +kernel
theorem dX7_digest_79 : decode cX7_digest 79 = .ok (.idiv, 1) := by decide +kernel
theorem dX7_digest_80 : decode cX7_digest 80 = .ok (.iload_n 1, 1) := by decide +kernel
theorem dX7_digest_81 : decode cX7_digest 81 = .ok (.iconst 4, 1) := by decide +kernel
theorem dX7_digest_82 : decode cX7_digest 82 = .ok (.irem, 1) := by decide +kernel
theorem dX7_digest_83 : decode cX7_digest 83 = .ok (.invokevirtual 221, 3) := by decide +kernel
theorem dX7_digest_86 : decode cX7_digest 86 = .ok (.i2l, 1) := by decide +kernel
theorem dX7_digest_87 : decode cX7_digest 87 = .ok (.invokevirtual 264, 3) := by decide +kernel
theorem dX7_digest_90 : decode cX7_digest 90 = .ok (.iinc 1 1, 3) := by decide +kernel
theorem dX7_digest_93 : decode cX7_digest 93 = .ok (.goto (-31), 3) := by decide +kernel
theorem dX7_digest_96 : decode cX7_digest 96 = .ok (.aload_n 0, 1) := by decide +kernel
theorem dX7_digest_97 : decode cX7_digest 97 = .ok (.aload_n 0, 1) := by decide +kernel
theorem dX7_digest_98 : decode cX7_digest 98 = .ok (.getfield 7, 3) := by decide +kernel
theorem dX7_digest_101 : decode cX7_digest 101 = .ok (.bipush 12, 2) := by decide +kernel
theorem dX7_digest_103 : decode cX7_digest 103 = .ok (.iaload, 1) := by decide +kernel
theorem dX7_digest_104 : decode cX7_digest 104 = .ok (.i2l, 1) := by decide +kernel
theorem dX7_digest_105 : decode cX7_digest 105 = .ok (.invokevirtual 264, 3) := by decide +kernel
theorem dX7_digest_108 : decode cX7_digest 108 = .ok (.aload_n 0, 1) := by decide +kernel
theorem dX7_digest_109 : decode cX7_digest 109 = .ok (.aload_n 0, 1) := by decide +kernel
theorem dX7_digest_110 : decode cX7_digest 110 = .ok (.getfield 7, 3) := by decide +kernel
theorem dX7_digest_113 : decode cX7_digest 113 = .ok (.bipush 13, 2) := by decide +kernel
theorem dX7_digest_115 : decode cX7_digest 115 = .ok (.iaload, 1) := by decide +kernel
theorem dX7_digest_116 : decode cX7_digest 116 = .ok (.i2l, 1) := by decide +kernel
theorem dX7_digest_117 : decode cX7_digest 117 = .ok (.invokevirtual 264, 3) := by decide +kernel
theorem dX7_digest_120 : decode cX7_digest 120 = .ok (.aload_n 0, 1) := by decide +kernel
theorem dX7_digest_121 : decode cX7_digest 121 = .ok (.aload_n 0, 1) := by decide +kernel
theorem dX7_digest_122 : decode cX7_digest 122 = .ok (.invokevirtual 254, 3) := by decide +kernel
theorem dX7_digest_125 : decode cX7_digest 125 = .ok (.invokestatic 273, 3) := by decide +kernel
theorem dX7_digest_128 : decode cX7_digest 128 = .ok (.invokevirtual 264, 3) := by decide +kernel
theorem dX7_digest_131 : decode cX7_digest 131 = .ok (.aload_n 0, 1) := by decide +kernel
theorem dX7_digest_132 : decode cX7_digest 132 = .ok (.aload_n 0, 1) := by decide +kernel
theorem dX7_digest_133 : decode cX7_digest 133 = .ok (.getfield 139, 3) := by decide +kernel
theorem dX7_digest_136 : decode cX7_digest 136 = .ok (.i2l, 1) := by decide +kernel
theorem dX7_digest_137 : decode cX7_digest 137 = .ok (.invokevirtual 264, 3) := by decide +kernel
theorem dX7_digest_140 : decode cX7_digest 140 = .ok (.iconst 0, 1) := by decide +kernel
theorem dX7_digest_141 : decode cX7_digest 141 = .ok (.istore_n 1, 1) := by decide +kernel
theorem dX7_digest_142 : decode cX7_digest 142 = .ok (.iload_n 1, 1) := by decide +kernel
theorem dX7_digest_143 : decode cX7_digest 143 = .ok (.aload_n 0, 1) := by decide +kernel
theorem dX7_digest_144 : decode cX7_digest 144 = .ok (.getfield 139, 3) := by decide +kernel
theorem dX7_digest_147 : decode cX7_digest 147 = .ok (.if_icmp .ge 20, 3) := by decide +kernel
theorem dX7_digest_150 : decode cX7_digest 150 = .ok (.aload_n 0, 1) := by decide +kernel
theorem dX7_digest_151 : decode cX7_digest 151 = .ok (.aload_n 0, 1) := by decide +kernel
theorem dX7_digest_152 : decode cX7_digest 152 = .ok (.getfield 22, 3) := by decide +kernel
theorem dX7_digest_155 : decode cX7_digest 155 = .ok (.iload_n 1, 1) := by decide +kernel
theorem dX7_digest_156 : decode cX7_digest 156 = .ok (.iaload, 1) := by decide +kernel
theorem dX7_digest_157 : decode cX7_digest 157 = .ok (.i2l, 1) := by decide +kernel
theorem dX7_digest_158 : decode cX7_digest 158 = .ok (.invokevirtual 264, 3) := by decide +kernel
theorem dX7_digest_161 : decode cX7_digest 161 = .ok (.iinc 1 1, 3) := by decide +kernel
theorem dX7_digest_164 : decode cX7_digest 164 = .ok (.goto (-22), 3) := by decide +kernel
theorem dX7_digest_167 : decode cX7_digest 167 = .ok (.aload_n 0, 1) := by decide +kernel
theorem dX7_digest_168 : decode cX7_digest 168 = .ok (.getfield 260, 3) := by decide +kernel
theorem dX7_digest_171 : decode cX7_digest 171 = .ok (.lreturn, 1) := by decide +kernel
end
section
/-! ROWS: the class Row, and what its methods do -/
def sj_rw (S : sj_St) (r c n : Nat) : Prop := sj_kd S r = some 2 ∧ sj_rf S r 0 = some c ∧ sj_kd S c = some 8 ∧ sj_il S c = n ∧ n < 1000
def sj_at (n : Nat) (f : Nat → Int32) (i : Int32) : Int32 := if i < 0 then 0 else if Int32.ofNat n ≤ i then 0 else f i.toNatClampNeg
def sj_put (S : sj_St) (c n : Nat) (i v : Int32) : sj_St := if i < 0 then S else if Int32.ofNat n ≤ i then S else sj_wIa S c i.toNatClampNeg v
def sj_sIa (S : sj_St) (a : Nat) (f : Nat → Int32) : sj_St := (S.1, S.2.1, S.2.2.1, S.2.2.2.1, sj_up S.2.2.2.2.1 a f, S.2.2.2.2.2)
theorem sj_up_id {α : Type} (F : Nat → α) (a : Nat) : sj_up F a (F a) = F := by
  funext q
  unfold sj_up
  by_cases h : q = a
  · rw [if_pos h, h]
  · rw [if_neg h]
theorem sj_up_up {α : Type} (F : Nat → α) (a : Nat) (f g : α) : sj_up (sj_up F a f) a g = sj_up F a g := by
  funext q
  unfold sj_up
  by_cases h : q = a
  · rw [if_pos h, if_pos h]
  · rw [if_neg h, if_neg h, if_neg h]
theorem sj_up_comm {α : Type} (F : Nat → α) {a b : Nat} (h : a ≠ b) (f g : α) : sj_up (sj_up F a f) b g = sj_up (sj_up F b g) a f := by
  funext q
  unfold sj_up
  by_cases h1 : q = a
  · have h2 : ¬ q = b := fun e => h (h1.symm.trans e)
    simp only [if_neg h2, if_pos h1]
  · by_cases h2 : q = b
    · simp only [if_neg h1, if_pos h2]
    · simp only [if_neg h1, if_neg h2]
theorem sj_sIa_id (S : sj_St) (a : Nat) : sj_sIa S a (sj_ia S a) = S := by
  unfold sj_sIa sj_ia
  rw [sj_up_id]
theorem sj_sIa_sIa (S : sj_St) (a : Nat) (f g : Nat → Int32) : sj_sIa (sj_sIa S a f) a g = sj_sIa S a g := by
  unfold sj_sIa
  dsimp only
  rw [sj_up_up]
theorem sj_wIa_sIa (S : sj_St) (a : Nat) (f : Nat → Int32) (k : Nat) (v : Int32) : sj_wIa (sj_sIa S a f) a k v = sj_sIa S a (upd f k v) := by
  unfold sj_wIa sj_sIa
  dsimp only
  rw [sj_up_up, sj_up_self]
theorem sj_wIa_eq (S : sj_St) (a k : Nat) (v : Int32) : sj_wIa S a k v = sj_sIa S a (upd (sj_ia S a) k v) := rfl
theorem sj_ia_sIa (S : sj_St) (a : Nat) (f : Nat → Int32) : sj_ia (sj_sIa S a f) a = f := sj_up_self _ _ _
theorem sj_ia_sIa_ne (S : sj_St) {a b : Nat} (f : Nat → Int32) (h : b ≠ a) : sj_ia (sj_sIa S a f) b = sj_ia S b := sj_up_ne _ _ h
theorem sj_vp {n : Nat} {i : Int32} (hn : n < 2 ^ 31) (h1 : ¬ i < 0) (h2 : ¬ Int32.ofNat n ≤ i) : vp_in i n := by
  obtain ⟨j, hj, rfl⟩ := nI_of h1
  exact vp_in_nI (Nat.not_le.mp fun h => h2 ((nI_leI hn hj).mpr h)) hn
theorem sj_at_nI {n j : Nat} (f : Nat → Int32) (hj : j < n) (hn : n < 2 ^ 31) : sj_at n f (nI j) = f j := by
  have hj2 : j < 2 ^ 31 := Nat.lt_trans hj hn
  unfold sj_at
  rw [if_neg (nI_pos hj2), if_neg (show ¬ Int32.ofNat n ≤ nI j from nI_ge hj hn), nI_clamp hj2]
theorem sj_put_nI {S : sj_St} {c n j : Nat} {v : Int32} (hj : j < n) (hn : n < 2 ^ 31) : sj_put S c n (nI j) v = sj_wIa S c j v := by
  have hj2 : j < 2 ^ 31 := Nat.lt_trans hj hn
  unfold sj_put
  rw [if_neg (nI_pos hj2), if_neg (show ¬ Int32.ofNat n ≤ nI j from nI_ge hj hn), nI_clamp hj2]
set_option maxRecDepth 100000 in
set_option maxHeartbeats 4000000 in
theorem ct_X2_at (l : Launch) {S : sj_St} {r c n : Nat} (h : sj_rw S r c n) (i : Int32) : sj_Ctr l mX2_at [.ref r, .int i] S (sj_eq (some (.int (sj_at n (sj_ia S c) i))) S) := by
  refine sj_start ([some (.ref r), some (.int i)]) (by decide +kernel) rfl rfl (fun X hX C hR => ?_)
  subst hX
  obtain ⟨kd_r, rf_r_0, kd_c, il_c, hn⟩ := h
  have hn2 : sj_il S c < 2 ^ 31 := by omega
  refine sj_iload_n C 1 rfl dX2_at_0 rfl rfl ?_
  refine sj_if_lt C 22 4 rfl rfl dX2_at_1 (fun c_1 => ?_) (fun c_1 => ?_)
  · refine sj_iconstv C (0) 23 rfl dX2_at_22 rfl ?_
    refine sj_iret C hR rfl rfl dX2_at_23 ?_
    refine ⟨congrArg (fun z => some (Value.int z)) ?_, rfl⟩
    unfold sj_at
    rw [if_pos c_1]
  · refine sj_iload_n C 5 rfl dX2_at_4 rfl rfl ?_
    refine sj_aload_n C 6 rfl dX2_at_5 rfl rfl ?_
    refine sj_getr C 9 rfl fd_X2_7 dX2_at_6 kd_r rf_r_0 ?_
    refine sj_alen8 C 10 rfl dX2_at_9 kd_c ?_
    refine sj_icmp_ge C 22 13 rfl rfl dX2_at_10 (fun c_10 => ?_) (fun c_10 => ?_)
    · refine sj_iconstv C (0) 23 rfl dX2_at_22 rfl ?_
      refine sj_iret C hR rfl rfl dX2_at_23 ?_
      refine ⟨congrArg (fun z => some (Value.int z)) ?_, rfl⟩
      rw [il_c] at c_10
      unfold sj_at
      rw [if_neg c_1, if_pos c_10]
    · refine sj_aload_n C 14 rfl dX2_at_13 rfl rfl ?_
      refine sj_getr C 17 rfl fd_X2_7 dX2_at_14 kd_r rf_r_0 ?_
      refine sj_iload_n C 18 rfl dX2_at_17 rfl rfl ?_
      refine sj_iald C 19 rfl dX2_at_18 kd_c (sj_vp hn2 c_1 c_10) ?_
      refine sj_goto C 23 rfl dX2_at_19 ?_
      refine sj_iret C hR rfl rfl dX2_at_23 ?_
      refine ⟨congrArg (fun z => some (Value.int z)) ?_, rfl⟩
      rw [il_c] at c_10
      unfold sj_at
      rw [if_neg c_1, if_neg c_10]
set_option maxRecDepth 100000 in
set_option maxHeartbeats 4000000 in
theorem ct_X2_put (l : Launch) {S : sj_St} {r c n : Nat} (h : sj_rw S r c n) (i v : Int32) : sj_Ctr l mX2_put [.ref r, .int i, .int v] S (sj_eq none (sj_put S c n i v)) := by
  refine sj_start ([some (.ref r), some (.int i), some (.int v)]) (by decide +kernel) rfl rfl (fun X hX C hR => ?_)
  subst hX
  obtain ⟨kd_r, rf_r_0, kd_c, il_c, hn⟩ := h
  have hn2 : sj_il S c < 2 ^ 31 := by omega
  refine sj_iload_n C 1 rfl dX2_put_0 rfl rfl ?_
  refine sj_if_lt C 20 4 rfl rfl dX2_put_1 (fun c_1 => ?_) (fun c_1 => ?_)
  · refine sj_vret C hR rfl rfl dX2_put_20 ?_
    refine ⟨rfl, ?_⟩
    unfold sj_put
    rw [if_pos c_1]
  · refine sj_iload_n C 5 rfl dX2_put_4 rfl rfl ?_
    refine sj_aload_n C 6 rfl dX2_put_5 rfl rfl ?_
    refine sj_getr C 9 rfl fd_X2_7 dX2_put_6 kd_r rf_r_0 ?_
    refine sj_alen8 C 10 rfl dX2_put_9 kd_c ?_
    refine sj_icmp_ge C 20 13 rfl rfl dX2_put_10 (fun c_10 => ?_) (fun c_10 => ?_)
    · refine sj_vret C hR rfl rfl dX2_put_20 ?_
      rw [il_c] at c_10
      refine ⟨rfl, ?_⟩
      unfold sj_put
      rw [if_neg c_1, if_pos c_10]
    · refine sj_aload_n C 14 rfl dX2_put_13 rfl rfl ?_
      refine sj_getr C 17 rfl fd_X2_7 dX2_put_14 kd_r rf_r_0 ?_
      refine sj_iload_n C 18 rfl dX2_put_17 rfl rfl ?_
      refine sj_iload_n C 19 rfl dX2_put_18 rfl rfl ?_
      refine sj_iast C 20 rfl dX2_put_19 kd_c (sj_vp hn2 c_1 c_10) ?_
      refine sj_vret C hR rfl rfl dX2_put_20 ?_
      rw [il_c] at c_10
      refine ⟨rfl, ?_⟩
      unfold sj_put
      rw [if_neg c_1, if_neg c_10]
def sj_cp (n : Nat) (f g : Nat → Int32) : Nat → Int32 := fun j => if j < n then f j else g j
theorem sj_cp_0 (f g : Nat → Int32) : sj_cp 0 f g = g := by
  funext j
  exact if_neg (Nat.not_lt_zero j)
theorem sj_cp_s (k : Nat) (f g : Nat → Int32) : upd (sj_cp k f g) k (f k) = sj_cp (k + 1) f g := by
  funext j
  unfold upd sj_cp
  by_cases h : j = k
  · rw [if_pos h, if_pos (by omega), h]
  · rw [if_neg h]
    by_cases h2 : j < k
    · rw [if_pos h2, if_pos (by omega)]
    · rw [if_neg h2, if_neg (by omega)]
set_option maxRecDepth 100000 in
set_option maxHeartbeats 4000000 in
theorem ct_X2_copyFrom (l : Launch) {S : sj_St} {r c r2 c2 n : Nat} (h : sj_rw S r c n) (h2 : sj_rw S r2 c2 n) (hne : c ≠ c2) : sj_Ctr l mX2_copyFrom [.ref r, .ref r2] S (sj_eq none (sj_sIa S c (sj_cp n (sj_ia S c2) (sj_ia S c)))) := by
  refine sj_start ([some (.ref r), some (.ref r2), none]) (by decide +kernel) rfl rfl (fun X hX C hR => ?_)
  subst hX
  obtain ⟨kd_r, rf_r_0, kd_c, il_c, hn⟩ := h
  obtain ⟨kd_r2, rf_r2_0, kd_c2, il_c2, hn2⟩ := h2
  have cut_7 : ∀ S', S' = sj_sIa S c (sj_cp 0 (sj_ia S c2) (sj_ia S c)) → sj_G X S' 0 0 [some (.ref r), some (.ref r2), some (.int (nI 0))] 7 [] := by
    refine sj_down (fun k => ∀ S', S' = sj_sIa S c (sj_cp k (sj_ia S c2) (sj_ia S c)) → sj_G X S' 0 0 [some (.ref r), some (.ref r2), some (.int (nI k))] 7 []) n (fun k hk ih => ?_)
    intro S' hS'
    subst hS'
    have e1 : sj_ia (sj_sIa S c (sj_cp k (sj_ia S c2) (sj_ia S c))) c2 = sj_ia S c2 := sj_ia_sIa_ne S _ (Ne.symm hne)
    refine sj_iload_n C 8 rfl dX2_copyFrom_7 rfl rfl ?_
    refine sj_aload_n C 9 rfl dX2_copyFrom_8 rfl rfl ?_
    refine sj_getr C 12 rfl fd_X2_7 dX2_copyFrom_9 kd_r rf_r_0 ?_
    refine sj_alen8 C 13 rfl dX2_copyFrom_12 kd_c ?_
    refine sj_icmp_ge C 43 16 rfl rfl dX2_copyFrom_13 (fun c_13 => ?_) (fun c_13 => ?_)
    · refine sj_vret C hR rfl rfl dX2_copyFrom_43 ?_
      have hkn : k = n := by
        have h9 : ¬ k < n := fun h => nI_ge h (by omega) (by rw [← il_c]; exact c_13)
        omega
      subst hkn
      exact ⟨rfl, rfl⟩
    · have hlt : k < n := Nat.not_le.mp fun h9 => c_13 (by show Int32.ofNat (sj_il S c) ≤ nI k; rw [il_c]; exact nI_le h9 (by omega))
      refine sj_iload_n C 17 rfl dX2_copyFrom_16 rfl rfl ?_
      refine sj_aload_n C 18 rfl dX2_copyFrom_17 rfl rfl ?_
      refine sj_getr C 21 rfl fd_X2_7 dX2_copyFrom_18 kd_r2 rf_r2_0 ?_
      refine sj_alen8 C 22 rfl dX2_copyFrom_21 kd_c2 ?_
      refine sj_icmp_ge C 43 25 rfl rfl dX2_copyFrom_22 (fun c_22 => ?_) (fun c_22 => ?_)
      · refine sj_vret C hR rfl rfl dX2_copyFrom_43 ?_
        exact absurd (il_c2.symm ▸ c_22) (nI_ge hlt (by omega))
      · refine sj_aload_n C 26 rfl dX2_copyFrom_25 rfl rfl ?_
        refine sj_getr C 29 rfl fd_X2_7 dX2_copyFrom_26 kd_r rf_r_0 ?_
        refine sj_iload_n C 30 rfl dX2_copyFrom_29 rfl rfl ?_
        refine sj_aload_n C 31 rfl dX2_copyFrom_30 rfl rfl ?_
        refine sj_getr C 34 rfl fd_X2_7 dX2_copyFrom_31 kd_r2 rf_r2_0 ?_
        refine sj_iload_n C 35 rfl dX2_copyFrom_34 rfl rfl ?_
        refine sj_iald C 36 rfl dX2_copyFrom_35 kd_c2 (by show vp_in _ (sj_il S c2); rw [il_c2]; exact vp_in_nI hlt (by omega)) ?_
        refine sj_iast C 37 rfl dX2_copyFrom_36 kd_c (by show vp_in _ (sj_il S c); rw [il_c]; exact vp_in_nI hlt (by omega)) ?_
        refine sj_iinc_2 C 40 rfl dX2_copyFrom_37 rfl rfl ?_
        refine sj_goto C 7 rfl dX2_copyFrom_40 ?_
        rw [sj_n1]
        refine ih hlt _ ?_
        rw [sj_wIa_sIa, nI_clamp (by omega), e1, sj_cp_s]
  refine sj_aload_n C 1 rfl dX2_copyFrom_0 rfl rfl ?_
  refine sj_ifnonnullS C 5 rfl dX2_copyFrom_1 ?_
  refine sj_iconstv C (0) 6 rfl dX2_copyFrom_5 rfl ?_
  refine sj_istore_n_2 C 7 rfl dX2_copyFrom_6 rfl rfl ?_
  exact cut_7 S (by rw [sj_cp_0, sj_sIa_id])
def sj_cu (g k : Nat) (f : Nat → Int32) : Nat → Int32 := fun j => if g ≤ j ∧ j < k then f (j + 1) else f j
theorem sj_cu_0 (g : Nat) (f : Nat → Int32) : sj_cu g g f = f := by
  funext j
  exact if_neg (by omega)
theorem sj_cu_s {g k : Nat} (h : g ≤ k) (f : Nat → Int32) : upd (sj_cu g k f) k (sj_cu g k f (k + 1)) = sj_cu g (k + 1) f := by
  funext j
  have e : sj_cu g k f (k + 1) = f (k + 1) := if_neg (by omega)
  rw [e]
  unfold upd sj_cu
  by_cases h1 : j = k
  · subst h1
    rw [if_pos rfl, if_pos (by omega)]
  · rw [if_neg h1]
    by_cases h2 : g ≤ j ∧ j < k
    · rw [if_pos h2, if_pos (by omega)]
    · rw [if_neg h2, if_neg (by omega)]
set_option maxRecDepth 100000 in
set_option maxHeartbeats 4000000 in
theorem ct_X2_closeUp (l : Launch) {S : sj_St} {r c n g : Nat} (h : sj_rw S r c n) (hg : g < n) : sj_Ctr l mX2_closeUp [.ref r, .int (nI g)] S (sj_eq none (sj_sIa S c (sj_cu g (n - 1) (sj_ia S c)))) := by
  refine sj_start ([some (.ref r), some (.int (nI g)), none]) (by decide +kernel) rfl rfl (fun X hX C hR => ?_)
  subst hX
  obtain ⟨kd_r, rf_r_0, kd_c, il_c, hn⟩ := h
  have cut_10 : ∀ S', S' = sj_sIa S c (sj_cu g g (sj_ia S c)) → sj_G X S' 0 0 [some (.ref r), some (.int (nI g)), some (.int (nI g))] 10 [] := by
    refine sj_downFrom (fun k => ∀ S', S' = sj_sIa S c (sj_cu g k (sj_ia S c)) → sj_G X S' 0 0 [some (.ref r), some (.int (nI g)), some (.int (nI k))] 10 []) g (n - 1) (by omega) (fun k hgk hk ih => ?_)
    intro S' hS'
    subst hS'
    have en : Int32.ofNat (sj_il S c) - 1 = nI (n - 1) := by
      rw [il_c]
      exact sj_nsub (a := n) (b := 1) (by omega)
    refine sj_iload_n C 11 rfl dX2_closeUp_10 rfl rfl ?_
    refine sj_aload_n C 12 rfl dX2_closeUp_11 rfl rfl ?_
    refine sj_getr C 15 rfl fd_X2_7 dX2_closeUp_12 kd_r rf_r_0 ?_
    refine sj_alen8 C 16 rfl dX2_closeUp_15 kd_c ?_
    refine sj_iconstv C (1) 17 rfl dX2_closeUp_16 rfl ?_
    refine sj_isub C 18 rfl dX2_closeUp_17 ?_
    refine sj_icmp_ge C 41 21 rfl rfl dX2_closeUp_18 (fun c_18 => ?_) (fun c_18 => ?_)
    · refine sj_vret C hR rfl rfl dX2_closeUp_41 ?_
      have hkn : k = n - 1 := by
        have h9 : ¬ k < n - 1 := fun h => nI_ge h (by omega) (by rw [← en]; exact c_18)
        omega
      subst hkn
      exact ⟨rfl, rfl⟩
    · have hlt : k < n - 1 := Nat.not_le.mp fun h9 => c_18 (by show Int32.ofNat (sj_il S c) - 1 ≤ nI k; rw [en]; exact nI_le h9 (by omega))
      refine sj_aload_n C 22 rfl dX2_closeUp_21 rfl rfl ?_
      refine sj_getr C 25 rfl fd_X2_7 dX2_closeUp_22 kd_r rf_r_0 ?_
      refine sj_iload_n C 26 rfl dX2_closeUp_25 rfl rfl ?_
      refine sj_aload_n C 27 rfl dX2_closeUp_26 rfl rfl ?_
      refine sj_getr C 30 rfl fd_X2_7 dX2_closeUp_27 kd_r rf_r_0 ?_
      refine sj_iload_n C 31 rfl dX2_closeUp_30 rfl rfl ?_
      refine sj_iconstv C (1) 32 rfl dX2_closeUp_31 rfl ?_
      refine sj_iadd C 33 rfl dX2_closeUp_32 ?_
      refine sj_iald C 34 rfl dX2_closeUp_33 kd_c (by show vp_in (nI k + 1) (sj_il S c); rw [il_c, nI_1]; exact vp_in_nI (by omega) (by omega)) ?_
      refine sj_iast C 35 rfl dX2_closeUp_34 kd_c (by show vp_in _ (sj_il S c); rw [il_c]; exact vp_in_nI (by omega) (by omega)) ?_
      refine sj_iinc_2 C 38 rfl dX2_closeUp_35 rfl rfl ?_
      refine sj_goto C 10 rfl dX2_closeUp_38 ?_
      rw [sj_n1]
      refine ih hlt _ ?_
      rw [sj_wIa_sIa, nI_clamp (by omega), sj_ia_sIa, show nI k + 1 = nI (k + 1) from nI_1 k, nI_clamp (by omega), sj_cu_s hgk]
  refine sj_iload_n C 1 rfl dX2_closeUp_0 rfl rfl ?_
  refine sj_if_ge C 8 4 rfl rfl dX2_closeUp_1 (fun c_1 => ?_) (fun c_1 => ?_)
  · refine sj_iload_n C 9 rfl dX2_closeUp_8 rfl rfl ?_
    refine sj_istore_n_2 C 10 rfl dX2_closeUp_9 rfl rfl ?_
    exact cut_10 S (by rw [sj_cu_0, sj_sIa_id])
  · exact absurd (nI_pos' (by omega)) c_1
end
section
/-! THE REFERENCE: its object, its rows, what its reading methods answer -/
def sj_mo (S : sj_St) (h : Nat) (b : Nat → Nat) : Prop := sj_kd S h = some 7 ∧ (sj_rf S h 1 = some (b 1) ∧ sj_kd S (b 1) = some 8 ∧ sj_il S (b 1) = 434) ∧ (sj_rf S h 2 = some (b 2) ∧ sj_kd S (b 2) = some 8 ∧ sj_il S (b 2) = 434) ∧ (sj_rf S h 3 = some (b 3) ∧ sj_kd S (b 3) = some 8 ∧ sj_il S (b 3) = 2604) ∧ (sj_rf S h 5 = some (b 5) ∧ sj_kd S (b 5) = some 8 ∧ sj_il S (b 5) = 434) ∧ (sj_rf S h 7 = some (b 7) ∧ sj_kd S (b 7) = some 8 ∧ sj_il S (b 7) = 60) ∧ (sj_rf S h 13 = some (b 13) ∧ sj_kd S (b 13) = some 8 ∧ sj_il S (b 13) = 40) ∧ (sj_rf S h 15 = some (b 15) ∧ sj_kd S (b 15) = some 8 ∧ sj_il S (b 15) = 8) ∧ ∀ i j, i < 16 → j < 16 → b i = b j → i = j
def sj_mm (S : sj_St) (h : Nat) (b : Nat → Nat) (m : Nat → Int32) : Prop := sj_mo S h b ∧ sj_ia S (b 1) = m
def sj_of (m : Nat → Int32) (i w : Nat) : Int32 := m (98 + 42 * i + w)
def sj_os (m : Nat → Int32) (i k w : Nat) : Int32 := m (98 + 42 * i + (2 + 5 * k + w))
def sj_oa (m : Nat → Int32) (k w : Nat) : Int32 := m (14 + 3 * k + w)
def sj_ns (m : Nat → Int32) (i : Nat) : Nat := (sj_of m i 1).toNatClampNeg
def sj_tot (m : Nat → Int32) (i w : Nat) : Int32 := sj_sum (fun k => sj_os m i k w) (sj_ns m i)
def sj_dv (a b : Int32) : Int32 := if a < 0 then -((-a + b - 1) / b) else a / b
/-- a sheet as it may be: 1 to 8 strokes, a mean height above 0 -/
def sj_shv (m : Nat → Int32) (i : Nat) : Prop := i < 8 ∧ sj_of m i 1 = nI (sj_ns m i) ∧ 1 ≤ sj_ns m i ∧ sj_ns m i ≤ 8 ∧ ¬ sj_tot m i 1 / nI (sj_ns m i) = 0
theorem sj_wi_lo {v a b : Int32} (h : v < a) : sj_wi v a b = false := by
  unfold sj_wi
  rw [decide_eq_false (Int32.not_le.mpr h), Bool.false_and]
theorem sj_wi_hi {v a b : Int32} (h : b < v) : sj_wi v a b = false := by
  unfold sj_wi
  rw [decide_eq_false (p := v ≤ b) (Int32.not_le.mpr h), Bool.and_false]
theorem sj_wi_in {v a b : Int32} (h1 : ¬ v < a) (h2 : ¬ b < v) : sj_wi v a b = true := by
  unfold sj_wi
  rw [decide_eq_true (Int32.not_lt.mp h1), decide_eq_true (Int32.not_lt.mp h2)]
  rfl
theorem sj_i98 (i w : Nat) : (98 : Int32) + 42 * nI i + nI w = nI (98 + 42 * i + w) := by
  rw [show (98 : Int32) = nI 98 from rfl, show (42 : Int32) = nI 42 from rfl, sj_nmul, nI_add, nI_add]
theorem sj_i14 (k w : Nat) : (14 : Int32) + 3 * nI k + nI w = nI (14 + 3 * k + w) := by
  rw [show (14 : Int32) = nI 14 from rfl, show (3 : Int32) = nI 3 from rfl, sj_nmul, nI_add, nI_add]
theorem sj_i2 (k w : Nat) : (2 : Int32) + 5 * nI k + nI w = nI (2 + 5 * k + w) := by
  rw [show (2 : Int32) = nI 2 from rfl, show (5 : Int32) = nI 5 from rfl, sj_nmul, nI_add, nI_add]
set_option maxRecDepth 100000 in
set_option maxHeartbeats 4000000 in
theorem ct_X7_within (l : Launch) (S : sj_St) (v a b : Int32) : sj_Ctr l mX7_within [.int v, .int a, .int b] S (sj_eq (some (.int (sj_bi (sj_wi v a b)))) S) := by
  refine sj_start ([some (.int v), some (.int a), some (.int b)]) (by decide +kernel) rfl rfl (fun X hX C hR => ?_)
  subst hX
  refine sj_iload_n C 1 rfl dX7_within_0 rfl rfl ?_
  refine sj_iload_n C 2 rfl dX7_within_1 rfl rfl ?_
  refine sj_icmp_lt C 14 5 rfl rfl dX7_within_2 (fun c_2 => ?_) (fun c_2 => ?_)
  · refine sj_iconstv C (0) 15 rfl dX7_within_14 rfl ?_
    refine sj_zret C hR rfl rfl rfl dX7_within_15 ?_
    refine ⟨congrArg (fun z => some (Value.int z)) ?_, rfl⟩
    rw [sj_wi_lo c_2]
    rfl
  · refine sj_iload_n C 6 rfl dX7_within_5 rfl rfl ?_
    refine sj_iload_n C 7 rfl dX7_within_6 rfl rfl ?_
    refine sj_icmp_gt C 14 10 rfl rfl dX7_within_7 (fun c_7 => ?_) (fun c_7 => ?_)
    · refine sj_iconstv C (0) 15 rfl dX7_within_14 rfl ?_
      refine sj_zret C hR rfl rfl rfl dX7_within_15 ?_
      refine ⟨congrArg (fun z => some (Value.int z)) ?_, rfl⟩
      rw [sj_wi_hi c_7]
      rfl
    · refine sj_iconstv C (1) 11 rfl dX7_within_10 rfl ?_
      refine sj_goto C 15 rfl dX7_within_11 ?_
      refine sj_zret C hR rfl rfl rfl dX7_within_15 ?_
      refine ⟨congrArg (fun z => some (Value.int z)) ?_, rfl⟩
      rw [sj_wi_in c_2 c_7]
      rfl
set_option maxRecDepth 100000 in
set_option maxHeartbeats 4000000 in
theorem ct_X7_sizeOf (l : Launch) (S : sj_St) (v : Int32) : sj_Ctr l mX7_sizeOf [.int v] S (sj_eq (some (.int (sj_sz v))) S) := by
  refine sj_start ([some (.int v)]) (by decide +kernel) rfl rfl (fun X hX C hR => ?_)
  subst hX
  refine sj_iload_n C 1 rfl dX7_sizeOf_0 rfl rfl ?_
  refine sj_if_ge C 9 4 rfl rfl dX7_sizeOf_1 (fun c_1 => ?_) (fun c_1 => ?_)
  · refine sj_iload_n C 10 rfl dX7_sizeOf_9 rfl rfl ?_
    refine sj_iret C hR rfl rfl dX7_sizeOf_10 ?_
    refine ⟨congrArg (fun z => some (Value.int z)) ?_, rfl⟩
    unfold sj_sz
    rw [if_neg (sj_nlt.mpr c_1)]
  · refine sj_iload_n C 5 rfl dX7_sizeOf_4 rfl rfl ?_
    refine sj_ineg C 6 rfl dX7_sizeOf_5 ?_
    refine sj_goto C 10 rfl dX7_sizeOf_6 ?_
    refine sj_iret C hR rfl rfl dX7_sizeOf_10 ?_
    refine ⟨congrArg (fun z => some (Value.int z)) ?_, rfl⟩
    unfold sj_sz
    rw [if_pos (sj_nle.mp c_1)]
set_option maxRecDepth 100000 in
set_option maxHeartbeats 4000000 in
theorem ct_X7_fails (l : Launch) {S : sj_St} {h : Nat} {b : Nat → Nat} {m : Nat → Int32} (hm : sj_mm S h b m) (v : Int32) : sj_Ctr l mX7_fails [.ref h, .int v] S (sj_eq (some (.int 0)) (sj_wFi S h 0 v)) := by
  refine sj_start ([some (.ref h), some (.int v)]) (by decide +kernel) rfl rfl (fun X hX C hR => ?_)
  subst hX
  have hm0 := hm
  obtain ⟨hm', em⟩ := hm0
  subst em
  obtain ⟨kd_h, ⟨rf_h_1, kd_a1, il_a1⟩, ⟨rf_h_2, kd_a2, il_a2⟩, ⟨rf_h_3, kd_a3, il_a3⟩, ⟨rf_h_5, kd_a5, il_a5⟩, ⟨rf_h_7, kd_a7, il_a7⟩, ⟨rf_h_13, kd_a13, il_a13⟩, ⟨rf_h_15, kd_a15, il_a15⟩, hinj⟩ := hm'
  refine sj_aload_n C 1 rfl dX7_fails_0 rfl rfl ?_
  refine sj_iload_n C 2 rfl dX7_fails_1 rfl rfl ?_
  refine sj_putI C 5 rfl fd_X7_31 dX7_fails_2 rfl rfl kd_h ?_
  refine sj_iconstv C (0) 6 rfl dX7_fails_5 rfl ?_
  refine sj_iret C hR rfl rfl dX7_fails_6 ?_
  exact ⟨rfl, rfl⟩
set_option maxRecDepth 100000 in
set_option maxHeartbeats 4000000 in
theorem ct_X7_thrown (l : Launch) {S : sj_St} {h : Nat} {b : Nat → Nat} {m : Nat → Int32} (hm : sj_mm S h b m) : sj_Ctr l mX7_thrown [.ref h] S (sj_eq (some (.int (sj_fi S h 0))) S) := by
  refine sj_start ([some (.ref h)]) (by decide +kernel) rfl rfl (fun X hX C hR => ?_)
  subst hX
  have hm0 := hm
  obtain ⟨hm', em⟩ := hm0
  subst em
  obtain ⟨kd_h, ⟨rf_h_1, kd_a1, il_a1⟩, ⟨rf_h_2, kd_a2, il_a2⟩, ⟨rf_h_3, kd_a3, il_a3⟩, ⟨rf_h_5, kd_a5, il_a5⟩, ⟨rf_h_7, kd_a7, il_a7⟩, ⟨rf_h_13, kd_a13, il_a13⟩, ⟨rf_h_15, kd_a15, il_a15⟩, hinj⟩ := hm'
  refine sj_aload_n C 1 rfl dX7_thrown_0 rfl rfl ?_
  refine sj_getI C 4 rfl fd_X7_31 dX7_thrown_1 kd_h ?_
  refine sj_iret C hR rfl rfl dX7_thrown_4 ?_
  exact ⟨rfl, rfl⟩
set_option maxRecDepth 100000 in
set_option maxHeartbeats 4000000 in
theorem ct_X7_isSheet (l : Launch) {S : sj_St} {h : Nat} {b : Nat → Nat} {m : Nat → Int32} (hm : sj_mm S h b m) (v : Int32) : sj_Ctr l mX7_isSheet [.ref h, .int v] S (sj_eq (some (.int (sj_bi (sj_wi v 0 (m 9 - 1))))) S) := by
  refine sj_start ([some (.ref h), some (.int v)]) (by decide +kernel) rfl rfl (fun X hX C hR => ?_)
  subst hX
  have hm0 := hm
  obtain ⟨hm', em⟩ := hm0
  subst em
  obtain ⟨kd_h, ⟨rf_h_1, kd_a1, il_a1⟩, ⟨rf_h_2, kd_a2, il_a2⟩, ⟨rf_h_3, kd_a3, il_a3⟩, ⟨rf_h_5, kd_a5, il_a5⟩, ⟨rf_h_7, kd_a7, il_a7⟩, ⟨rf_h_13, kd_a13, il_a13⟩, ⟨rf_h_15, kd_a15, il_a15⟩, hinj⟩ := hm'
  refine sj_iload_n C 1 rfl dX7_isSheet_0 rfl rfl ?_
  refine sj_iconstv C (0) 2 rfl dX7_isSheet_1 rfl ?_
  refine sj_aload_n C 3 rfl dX7_isSheet_2 rfl rfl ?_
  refine sj_getr C 6 rfl fd_X7_7 dX7_isSheet_3 kd_h rf_h_1 ?_
  refine sj_bipush C (9) 8 rfl dX7_isSheet_6 (by decide) ?_
  refine sj_iald C 9 rfl dX7_isSheet_8 kd_a1 (by show vp_in (nI 9) (sj_il S (b 1)); rw [il_a1]; exact vp_in_nI (by omega) (by omega)) ?_
  refine sj_iconstv C (1) 10 rfl dX7_isSheet_9 rfl ?_
  refine sj_isub C 11 rfl dX7_isSheet_10 ?_
  refine sj_callSd C 14 rfl dX7_isSheet_11 cv_X7_35 rfl (ct_X7_within _ _ _ _ _) rfl rfl rfl ⟨rfl, rfl⟩ ?_
  refine sj_zret C hR rfl (sj_binar _) rfl dX7_isSheet_14 ?_
  exact ⟨rfl, rfl⟩
set_option maxRecDepth 100000 in
set_option maxHeartbeats 4000000 in
theorem ct_X7_of (l : Launch) {S : sj_St} {h : Nat} {b : Nat → Nat} {m : Nat → Int32} (hm : sj_mm S h b m) (i w : Nat) (hi : i < 8) (hw : w < 42) : sj_Ctr l mX7_of [.ref h, .int (nI i), .int (nI w)] S (sj_eq (some (.int (sj_of m i w))) S) := by
  refine sj_start ([some (.ref h), some (.int (nI i)), some (.int (nI w))]) (by decide +kernel) rfl rfl (fun X hX C hR => ?_)
  subst hX
  have hm0 := hm
  obtain ⟨hm', em⟩ := hm0
  subst em
  obtain ⟨kd_h, ⟨rf_h_1, kd_a1, il_a1⟩, ⟨rf_h_2, kd_a2, il_a2⟩, ⟨rf_h_3, kd_a3, il_a3⟩, ⟨rf_h_5, kd_a5, il_a5⟩, ⟨rf_h_7, kd_a7, il_a7⟩, ⟨rf_h_13, kd_a13, il_a13⟩, ⟨rf_h_15, kd_a15, il_a15⟩, hinj⟩ := hm'
  refine sj_aload_n C 1 rfl dX7_of_0 rfl rfl ?_
  refine sj_getr C 4 rfl fd_X7_7 dX7_of_1 kd_h rf_h_1 ?_
  refine sj_bipush C (98) 6 rfl dX7_of_4 (by decide) ?_
  refine sj_bipush C (42) 8 rfl dX7_of_6 (by decide) ?_
  refine sj_iload_n C 9 rfl dX7_of_8 rfl rfl ?_
  refine sj_imul C 10 rfl dX7_of_9 ?_
  refine sj_iadd C 11 rfl dX7_of_10 ?_
  refine sj_iload_n C 12 rfl dX7_of_11 rfl rfl ?_
  refine sj_iadd C 13 rfl dX7_of_12 ?_
  rw [sj_i98]
  refine sj_iald C 14 rfl dX7_of_13 kd_a1 (by show vp_in _ (sj_il S (b 1)); rw [il_a1]; exact vp_in_nI (by omega) (by omega)) ?_
  refine sj_iret C hR rfl rfl dX7_of_14 ?_
  refine ⟨congrArg (fun z => some (Value.int z)) ?_, rfl⟩
  unfold sj_of
  rw [nI_clamp (by omega)]
set_option maxRecDepth 100000 in
set_option maxHeartbeats 4000000 in
theorem ct_X7_ofStroke (l : Launch) {S : sj_St} {h : Nat} {b : Nat → Nat} {m : Nat → Int32} (hm : sj_mm S h b m) (i k w : Nat) (hi : i < 8) (hk : k < 8) (hw : w < 5 := by omega) : sj_Ctr l mX7_ofStroke [.ref h, .int (nI i), .int (nI k), .int (nI w)] S (sj_eq (some (.int (sj_os m i k w))) S) := by
  refine sj_start ([some (.ref h), some (.int (nI i)), some (.int (nI k)), some (.int (nI w))]) (by decide +kernel) rfl rfl (fun X hX C hR => ?_)
  subst hX
  have hm0 := hm
  obtain ⟨hm', em⟩ := hm0
  subst em
  obtain ⟨kd_h, ⟨rf_h_1, kd_a1, il_a1⟩, ⟨rf_h_2, kd_a2, il_a2⟩, ⟨rf_h_3, kd_a3, il_a3⟩, ⟨rf_h_5, kd_a5, il_a5⟩, ⟨rf_h_7, kd_a7, il_a7⟩, ⟨rf_h_13, kd_a13, il_a13⟩, ⟨rf_h_15, kd_a15, il_a15⟩, hinj⟩ := hm'
  refine sj_aload_n C 1 rfl dX7_ofStroke_0 rfl rfl ?_
  refine sj_iload_n C 2 rfl dX7_ofStroke_1 rfl rfl ?_
  refine sj_iconstv C (2) 3 rfl dX7_ofStroke_2 rfl ?_
  refine sj_iconstv C (5) 4 rfl dX7_ofStroke_3 rfl ?_
  refine sj_iload_n C 5 rfl dX7_ofStroke_4 rfl rfl ?_
  refine sj_imul C 6 rfl dX7_ofStroke_5 ?_
  refine sj_iadd C 7 rfl dX7_ofStroke_6 ?_
  refine sj_iload_n C 8 rfl dX7_ofStroke_7 rfl rfl ?_
  refine sj_iadd C 9 rfl dX7_ofStroke_8 ?_
  rw [sj_i2]
  refine sj_callVd C 12 rfl dX7_ofStroke_9 cv_X7_39 rfl (ct_X7_of _ hm i (2 + 5 * k + w) hi (by omega)) rfl rfl rfl ⟨_, _, kd_h, rfl, rfl, by decide⟩ ⟨rfl, rfl⟩ ?_
  refine sj_iret C hR rfl rfl dX7_ofStroke_12 ?_
  exact ⟨rfl, rfl⟩
set_option maxRecDepth 100000 in
set_option maxHeartbeats 4000000 in
theorem ct_X7_ofOath (l : Launch) {S : sj_St} {h : Nat} {b : Nat → Nat} {m : Nat → Int32} (hm : sj_mm S h b m) (k w : Nat) (hk : k < 28) (hw : w < 3 := by omega) : sj_Ctr l mX7_ofOath [.ref h, .int (nI k), .int (nI w)] S (sj_eq (some (.int (sj_oa m k w))) S) := by
  refine sj_start ([some (.ref h), some (.int (nI k)), some (.int (nI w))]) (by decide +kernel) rfl rfl (fun X hX C hR => ?_)
  subst hX
  have hm0 := hm
  obtain ⟨hm', em⟩ := hm0
  subst em
  obtain ⟨kd_h, ⟨rf_h_1, kd_a1, il_a1⟩, ⟨rf_h_2, kd_a2, il_a2⟩, ⟨rf_h_3, kd_a3, il_a3⟩, ⟨rf_h_5, kd_a5, il_a5⟩, ⟨rf_h_7, kd_a7, il_a7⟩, ⟨rf_h_13, kd_a13, il_a13⟩, ⟨rf_h_15, kd_a15, il_a15⟩, hinj⟩ := hm'
  refine sj_aload_n C 1 rfl dX7_ofOath_0 rfl rfl ?_
  refine sj_getr C 4 rfl fd_X7_7 dX7_ofOath_1 kd_h rf_h_1 ?_
  refine sj_bipush C (14) 6 rfl dX7_ofOath_4 (by decide) ?_
  refine sj_iconstv C (3) 7 rfl dX7_ofOath_6 rfl ?_
  refine sj_iload_n C 8 rfl dX7_ofOath_7 rfl rfl ?_
  refine sj_imul C 9 rfl dX7_ofOath_8 ?_
  refine sj_iadd C 10 rfl dX7_ofOath_9 ?_
  refine sj_iload_n C 11 rfl dX7_ofOath_10 rfl rfl ?_
  refine sj_iadd C 12 rfl dX7_ofOath_11 ?_
  rw [sj_i14]
  refine sj_iald C 13 rfl dX7_ofOath_12 kd_a1 (by show vp_in _ (sj_il S (b 1)); rw [il_a1]; exact vp_in_nI (by omega) (by omega)) ?_
  refine sj_iret C hR rfl rfl dX7_ofOath_13 ?_
  refine ⟨congrArg (fun z => some (Value.int z)) ?_, rfl⟩
  unfold sj_oa
  rw [nI_clamp (by omega)]
set_option maxRecDepth 100000 in
set_option maxHeartbeats 4000000 in
theorem ct_X7_divided (l : Launch) (S : sj_St) (a b : Int32) (hb : ¬ b = 0) : sj_Ctr l mX7_divided [.int a, .int b] S (sj_eq (some (.int (sj_dv a b))) S) := by
  refine sj_start ([some (.int a), some (.int b)]) (by decide +kernel) rfl rfl (fun X hX C hR => ?_)
  subst hX
  refine sj_iload_n C 1 rfl dX7_divided_0 rfl rfl ?_
  refine sj_if_lt C 10 4 rfl rfl dX7_divided_1 (fun c_1 => ?_) (fun c_1 => ?_)
  · refine sj_iload_n C 11 rfl dX7_divided_10 rfl rfl ?_
    refine sj_ineg C 12 rfl dX7_divided_11 ?_
    refine sj_iload_n C 13 rfl dX7_divided_12 rfl rfl ?_
    refine sj_iadd C 14 rfl dX7_divided_13 ?_
    refine sj_iconstv C (1) 15 rfl dX7_divided_14 rfl ?_
    refine sj_isub C 16 rfl dX7_divided_15 ?_
    refine sj_iload_n C 17 rfl dX7_divided_16 rfl rfl ?_
    refine sj_idiv C 18 rfl dX7_divided_17 hb ?_
    refine sj_ineg C 19 rfl dX7_divided_18 ?_
    refine sj_iret C hR rfl rfl dX7_divided_19 ?_
    refine ⟨congrArg (fun z => some (Value.int z)) ?_, rfl⟩
    unfold sj_dv
    rw [if_pos c_1]
  · refine sj_iload_n C 5 rfl dX7_divided_4 rfl rfl ?_
    refine sj_iload_n C 6 rfl dX7_divided_5 rfl rfl ?_
    refine sj_idiv C 7 rfl dX7_divided_6 hb ?_
    refine sj_goto C 19 rfl dX7_divided_7 ?_
    refine sj_iret C hR rfl rfl dX7_divided_19 ?_
    refine ⟨congrArg (fun z => some (Value.int z)) ?_, rfl⟩
    unfold sj_dv
    rw [if_neg c_1]
set_option maxRecDepth 100000 in
set_option maxHeartbeats 4000000 in
theorem ct_X7_sumOf (l : Launch) {S : sj_St} {h : Nat} {b : Nat → Nat} {m : Nat → Int32} (hm : sj_mm S h b m) (i w : Nat) (hi : i < 8) (hw : w < 5) (hn : sj_of m i 1 = nI (sj_ns m i)) (hn8 : sj_ns m i ≤ 8) : sj_Ctr l mX7_sumOf [.ref h, .int (nI i), .int (nI w)] S (sj_eq (some (.int (sj_tot m i w))) S) := by
  refine sj_start ([some (.ref h), some (.int (nI i)), some (.int (nI w)), none, none]) (by decide +kernel) rfl rfl (fun X hX C hR => ?_)
  subst hX
  have hm0 := hm
  obtain ⟨hm', em⟩ := hm0
  subst em
  obtain ⟨kd_h, ⟨rf_h_1, kd_a1, il_a1⟩, ⟨rf_h_2, kd_a2, il_a2⟩, ⟨rf_h_3, kd_a3, il_a3⟩, ⟨rf_h_5, kd_a5, il_a5⟩, ⟨rf_h_7, kd_a7, il_a7⟩, ⟨rf_h_13, kd_a13, il_a13⟩, ⟨rf_h_15, kd_a15, il_a15⟩, hinj⟩ := hm'
  have cut_5 : sj_G X S 0 0 [some (.ref h), some (.int (nI i)), some (.int (nI w)), some (.int (sj_sum (fun k => sj_os (sj_ia S (b 1)) i k w) 0)), some (.int (nI 0))] 5 [] := by
    refine sj_down (fun k => sj_G X S 0 0 [some (.ref h), some (.int (nI i)), some (.int (nI w)), some (.int (sj_sum (fun k => sj_os (sj_ia S (b 1)) i k w) k)), some (.int (nI k))] 5 []) (sj_ns (sj_ia S (b 1)) i) (fun k hk ih => ?_)
    refine sj_iload C 7 rfl dX7_sumOf_5 rfl ?_
    refine sj_aload_n C 8 rfl dX7_sumOf_7 rfl rfl ?_
    refine sj_iload_n C 9 rfl dX7_sumOf_8 rfl rfl ?_
    refine sj_iconstv C (1) 10 rfl dX7_sumOf_9 rfl ?_
    refine sj_callVd C 13 rfl dX7_sumOf_10 cv_X7_39 rfl (ct_X7_of _ hm i 1 hi (by omega)) rfl rfl rfl ⟨_, _, kd_h, rfl, rfl, by decide⟩ ⟨rfl, rfl⟩ ?_
    refine sj_icmp_ge C 33 16 rfl rfl dX7_sumOf_13 (fun c_13 => ?_) (fun c_13 => ?_)
    · refine sj_iload_n C 34 rfl dX7_sumOf_33 rfl rfl ?_
      refine sj_iret C hR rfl rfl dX7_sumOf_34 ?_
      refine ⟨congrArg (fun z => some (Value.int z)) ?_, rfl⟩
      have hke : k = sj_ns (sj_ia S (b 1)) i := by
        have h9 : ¬ k < sj_ns (sj_ia S (b 1)) i := fun h8 => nI_ge h8 (by omega) (by rw [← hn]; exact c_13)
        omega
      subst hke
      rfl
    · have hlt : k < sj_ns (sj_ia S (b 1)) i := Nat.not_le.mp fun h9 => c_13 (by rw [hn]; exact nI_le h9 (by omega))
      refine sj_iload_n C 17 rfl dX7_sumOf_16 rfl rfl ?_
      refine sj_aload_n C 18 rfl dX7_sumOf_17 rfl rfl ?_
      refine sj_iload_n C 19 rfl dX7_sumOf_18 rfl rfl ?_
      refine sj_iload C 21 rfl dX7_sumOf_19 rfl ?_
      refine sj_iload_n C 22 rfl dX7_sumOf_21 rfl rfl ?_
      refine sj_callVd C 25 rfl dX7_sumOf_22 cv_X7_57 rfl (ct_X7_ofStroke _ hm i k w hi (by omega) hw) rfl rfl rfl ⟨_, _, kd_h, rfl, rfl, by decide⟩ ⟨rfl, rfl⟩ ?_
      refine sj_iadd C 26 rfl dX7_sumOf_25 ?_
      refine sj_istore_n_3 C 27 rfl dX7_sumOf_26 rfl rfl ?_
      refine sj_iinc_4 C 30 rfl dX7_sumOf_27 rfl rfl ?_
      refine sj_goto C 5 rfl dX7_sumOf_30 ?_
      rw [sj_n1]
      exact ih hlt
  refine sj_iconstv C (0) 1 rfl dX7_sumOf_0 rfl ?_
  refine sj_istore_n_3 C 2 rfl dX7_sumOf_1 rfl rfl ?_
  refine sj_iconstv C (0) 3 rfl dX7_sumOf_2 rfl ?_
  refine sj_istore_4 C 5 rfl dX7_sumOf_3 rfl rfl ?_
  exact cut_5
def sj_mn (f : Nat → Int32) : Nat → Int32
  | 0 => f 0
  | k + 1 => if f (k + 1) < sj_mn f k then f (k + 1) else sj_mn f k
def sj_mx (f : Nat → Int32) : Nat → Int32
  | 0 => f 0
  | k + 1 => if sj_mx f k < f (k + 1) then f (k + 1) else sj_mx f k
def sj_spr (m : Nat → Int32) (i : Nat) : Int32 := sj_mx (fun k => sj_os m i k 0) (sj_ns m i - 1) - sj_mn (fun k => sj_os m i k 0) (sj_ns m i - 1)
def sj_lh (m : Nat → Int32) (i : Nat) : Int32 := if sj_tot m i 2 = 0 then 0 else sj_sum (fun k => sj_os m i k 2 * sj_os m i k 1) (sj_ns m i) / sj_tot m i 2 * 10 / (sj_tot m i 1 / nI (sj_ns m i))
def sj_ur (m : Nat → Int32) (i : Nat) : Int32 := if sj_ns m i = 1 then 0 else sj_sum (fun k => sj_sz (sj_os m i (k + 1) 3 - sj_os m i k 3)) (sj_ns m i - 1) * 10 / (nI (sj_ns m i) - 1)
def sj_mk (m : Nat → Int32) (i : Nat) : Nat → Int32
  | 0 => sj_dv (sj_tot m i 0) (nI (sj_ns m i))
  | 1 => sj_spr m i
  | 2 => sj_lh m i
  | 3 => 100 * sj_tot m i 2 / nI (sj_ns m i)
  | 4 => 10 * sj_tot m i 3 / nI (sj_ns m i)
  | _ => sj_ur m i
set_option maxRecDepth 100000 in
set_option maxHeartbeats 4000000 in
theorem ct_X7_spread (l : Launch) {S : sj_St} {h : Nat} {b : Nat → Nat} {m : Nat → Int32} (hm : sj_mm S h b m) (i : Nat) (hv : sj_shv m i) : sj_Ctr l mX7_spread [.ref h, .int (nI i)] S (sj_eq (some (.int (sj_spr m i))) S) := by
  refine sj_start ([some (.ref h), some (.int (nI i)), none, none, none, none]) (by decide +kernel) rfl rfl (fun X hX C hR => ?_)
  subst hX
  have hm0 := hm
  obtain ⟨hm', em⟩ := hm0
  subst em
  obtain ⟨kd_h, ⟨rf_h_1, kd_a1, il_a1⟩, ⟨rf_h_2, kd_a2, il_a2⟩, ⟨rf_h_3, kd_a3, il_a3⟩, ⟨rf_h_5, kd_a5, il_a5⟩, ⟨rf_h_7, kd_a7, il_a7⟩, ⟨rf_h_13, kd_a13, il_a13⟩, ⟨rf_h_15, kd_a15, il_a15⟩, hinj⟩ := hm'
  obtain ⟨hi, hn, hn1, hn8, hh⟩ := id hv
  have cut_13 : sj_G X S 0 0 [some (.ref h), some (.int (nI i)), some (.int (sj_mn (fun k => sj_os (sj_ia S (b 1)) i k 0) 0)), some (.int (sj_mx (fun k => sj_os (sj_ia S (b 1)) i k 0) 0)), some (.int (nI 1)), none] 13 [] := by
    refine sj_down (fun k => ∀ o, sj_G X S 0 0 [some (.ref h), some (.int (nI i)), some (.int (sj_mn (fun k => sj_os (sj_ia S (b 1)) i k 0) k)), some (.int (sj_mx (fun k => sj_os (sj_ia S (b 1)) i k 0) k)), some (.int (nI (k + 1))), o] 13 []) (sj_ns (sj_ia S (b 1)) i - 1) (fun k hk ih => ?_) none
    intro o
    refine sj_iload C 15 rfl dX7_spread_13 rfl ?_
    refine sj_aload_n C 16 rfl dX7_spread_15 rfl rfl ?_
    refine sj_iload_n C 17 rfl dX7_spread_16 rfl rfl ?_
    refine sj_iconstv C (1) 18 rfl dX7_spread_17 rfl ?_
    refine sj_callVd C 21 rfl dX7_spread_18 cv_X7_39 rfl (ct_X7_of _ hm i 1 hi (by omega)) rfl rfl rfl ⟨_, _, kd_h, rfl, rfl, by decide⟩ ⟨rfl, rfl⟩ ?_
    refine sj_icmp_ge C 66 24 rfl rfl dX7_spread_21 (fun c_21 => ?_) (fun c_21 => ?_)
    · refine sj_iload_n C 67 rfl dX7_spread_66 rfl rfl ?_
      refine sj_iload_n C 68 rfl dX7_spread_67 rfl rfl ?_
      refine sj_isub C 69 rfl dX7_spread_68 ?_
      refine sj_iret C hR rfl rfl dX7_spread_69 ?_
      refine ⟨congrArg (fun z => some (Value.int z)) ?_, rfl⟩
      have hke : k = sj_ns (sj_ia S (b 1)) i - 1 := by
        have h9 : ¬ k < sj_ns (sj_ia S (b 1)) i - 1 := fun h8 => nI_ge (a := k + 1) (b := sj_ns (sj_ia S (b 1)) i) (by omega) (by omega) (by rw [← hn]; exact c_21)
        omega
      subst hke
      rfl
    · have hlt : k < sj_ns (sj_ia S (b 1)) i - 1 := Nat.not_le.mp fun h9 => c_21 (by rw [hn]; exact nI_le (by omega) (by omega))
      refine sj_aload_n C 25 rfl dX7_spread_24 rfl rfl ?_
      refine sj_iload_n C 26 rfl dX7_spread_25 rfl rfl ?_
      refine sj_iload C 28 rfl dX7_spread_26 rfl ?_
      refine sj_iconstv C (0) 29 rfl dX7_spread_28 rfl ?_
      refine sj_callVd C 32 rfl dX7_spread_29 cv_X7_57 rfl (ct_X7_ofStroke _ hm i (k + 1) 0 hi (by omega)) rfl rfl rfl ⟨_, _, kd_h, rfl, rfl, by decide⟩ ⟨rfl, rfl⟩ ?_
      refine sj_istore_5 C 34 rfl dX7_spread_32 rfl rfl ?_
      refine sj_iload C 36 rfl dX7_spread_34 rfl ?_
      refine sj_iload_n C 37 rfl dX7_spread_36 rfl rfl ?_
      refine sj_icmp_ge C 45 40 rfl rfl dX7_spread_37 (fun c_37 => ?_) (fun c_37 => ?_)
      · refine sj_iload_n C 46 rfl dX7_spread_45 rfl rfl ?_
        refine sj_istore_n_2 C 47 rfl dX7_spread_46 rfl rfl ?_
        refine sj_iload C 49 rfl dX7_spread_47 rfl ?_
        refine sj_iload_n C 50 rfl dX7_spread_49 rfl rfl ?_
        refine sj_icmp_le C 58 53 rfl rfl dX7_spread_50 (fun c_50 => ?_) (fun c_50 => ?_)
        · refine sj_iload_n C 59 rfl dX7_spread_58 rfl rfl ?_
          refine sj_istore_n_3 C 60 rfl dX7_spread_59 rfl rfl ?_
          have ih' := ih hlt (some (.int (sj_os (sj_ia S (b 1)) i (k + 1) 0)))
          have emn : sj_mn (fun k => sj_os (sj_ia S (b 1)) i k 0) (k + 1) = sj_mn (fun k => sj_os (sj_ia S (b 1)) i k 0) k := if_neg (sj_nlt.mpr c_37)
          have emx : sj_mx (fun k => sj_os (sj_ia S (b 1)) i k 0) (k + 1) = sj_mx (fun k => sj_os (sj_ia S (b 1)) i k 0) k := if_neg (sj_nlt.mpr c_50)
          rw [emn, emx] at ih'
          refine sj_iinc_4 C 63 rfl dX7_spread_60 rfl rfl ?_
          refine sj_goto C 13 rfl dX7_spread_63 ?_
          rw [sj_n1]
          exact ih'
        · refine sj_iload C 55 rfl dX7_spread_53 rfl ?_
          refine sj_goto C 59 rfl dX7_spread_55 ?_
          refine sj_istore_n_3 C 60 rfl dX7_spread_59 rfl rfl ?_
          have ih' := ih hlt (some (.int (sj_os (sj_ia S (b 1)) i (k + 1) 0)))
          have emn : sj_mn (fun k => sj_os (sj_ia S (b 1)) i k 0) (k + 1) = sj_mn (fun k => sj_os (sj_ia S (b 1)) i k 0) k := if_neg (sj_nlt.mpr c_37)
          have emx : sj_mx (fun k => sj_os (sj_ia S (b 1)) i k 0) (k + 1) = sj_os (sj_ia S (b 1)) i (k + 1) 0 := if_pos (sj_nle.mp c_50)
          rw [emn, emx] at ih'
          refine sj_iinc_4 C 63 rfl dX7_spread_60 rfl rfl ?_
          refine sj_goto C 13 rfl dX7_spread_63 ?_
          rw [sj_n1]
          exact ih'
      · refine sj_iload C 42 rfl dX7_spread_40 rfl ?_
        refine sj_goto C 46 rfl dX7_spread_42 ?_
        refine sj_istore_n_2 C 47 rfl dX7_spread_46 rfl rfl ?_
        refine sj_iload C 49 rfl dX7_spread_47 rfl ?_
        refine sj_iload_n C 50 rfl dX7_spread_49 rfl rfl ?_
        refine sj_icmp_le C 58 53 rfl rfl dX7_spread_50 (fun c_50 => ?_) (fun c_50 => ?_)
        · refine sj_iload_n C 59 rfl dX7_spread_58 rfl rfl ?_
          refine sj_istore_n_3 C 60 rfl dX7_spread_59 rfl rfl ?_
          have ih' := ih hlt (some (.int (sj_os (sj_ia S (b 1)) i (k + 1) 0)))
          have emn : sj_mn (fun k => sj_os (sj_ia S (b 1)) i k 0) (k + 1) = sj_os (sj_ia S (b 1)) i (k + 1) 0 := if_pos (sj_nle.mp c_37)
          have emx : sj_mx (fun k => sj_os (sj_ia S (b 1)) i k 0) (k + 1) = sj_mx (fun k => sj_os (sj_ia S (b 1)) i k 0) k := if_neg (sj_nlt.mpr c_50)
          rw [emn, emx] at ih'
          refine sj_iinc_4 C 63 rfl dX7_spread_60 rfl rfl ?_
          refine sj_goto C 13 rfl dX7_spread_63 ?_
          rw [sj_n1]
          exact ih'
        · refine sj_iload C 55 rfl dX7_spread_53 rfl ?_
          refine sj_goto C 59 rfl dX7_spread_55 ?_
          refine sj_istore_n_3 C 60 rfl dX7_spread_59 rfl rfl ?_
          have ih' := ih hlt (some (.int (sj_os (sj_ia S (b 1)) i (k + 1) 0)))
          have emn : sj_mn (fun k => sj_os (sj_ia S (b 1)) i k 0) (k + 1) = sj_os (sj_ia S (b 1)) i (k + 1) 0 := if_pos (sj_nle.mp c_37)
          have emx : sj_mx (fun k => sj_os (sj_ia S (b 1)) i k 0) (k + 1) = sj_os (sj_ia S (b 1)) i (k + 1) 0 := if_pos (sj_nle.mp c_50)
          rw [emn, emx] at ih'
          refine sj_iinc_4 C 63 rfl dX7_spread_60 rfl rfl ?_
          refine sj_goto C 13 rfl dX7_spread_63 ?_
          rw [sj_n1]
          exact ih'
  refine sj_aload_n C 1 rfl dX7_spread_0 rfl rfl ?_
  refine sj_iload_n C 2 rfl dX7_spread_1 rfl rfl ?_
  refine sj_iconstv C (0) 3 rfl dX7_spread_2 rfl ?_
  refine sj_iconstv C (0) 4 rfl dX7_spread_3 rfl ?_
  refine sj_callVd C 7 rfl dX7_spread_4 cv_X7_57 rfl (ct_X7_ofStroke _ hm i 0 0 hi (by omega)) rfl rfl rfl ⟨_, _, kd_h, rfl, rfl, by decide⟩ ⟨rfl, rfl⟩ ?_
  refine sj_istore_n_2 C 8 rfl dX7_spread_7 rfl rfl ?_
  refine sj_iload_n C 9 rfl dX7_spread_8 rfl rfl ?_
  refine sj_istore_n_3 C 10 rfl dX7_spread_9 rfl rfl ?_
  refine sj_iconstv C (1) 11 rfl dX7_spread_10 rfl ?_
  refine sj_istore_4 C 13 rfl dX7_spread_11 rfl rfl ?_
  exact cut_13
set_option maxRecDepth 100000 in
set_option maxHeartbeats 4000000 in
theorem ct_X7_loopHeight (l : Launch) {S : sj_St} {h : Nat} {b : Nat → Nat} {m : Nat → Int32} (hm : sj_mm S h b m) (i : Nat) (hv : sj_shv m i) : sj_Ctr l mX7_loopHeight [.ref h, .int (nI i)] S (sj_eq (some (.int (sj_lh m i))) S) := by
  refine sj_start ([some (.ref h), some (.int (nI i)), none, none, none]) (by decide +kernel) rfl rfl (fun X hX C hR => ?_)
  subst hX
  have hm0 := hm
  obtain ⟨hm', em⟩ := hm0
  subst em
  obtain ⟨kd_h, ⟨rf_h_1, kd_a1, il_a1⟩, ⟨rf_h_2, kd_a2, il_a2⟩, ⟨rf_h_3, kd_a3, il_a3⟩, ⟨rf_h_5, kd_a5, il_a5⟩, ⟨rf_h_7, kd_a7, il_a7⟩, ⟨rf_h_13, kd_a13, il_a13⟩, ⟨rf_h_15, kd_a15, il_a15⟩, hinj⟩ := hm'
  obtain ⟨hi, hn, hn1, hn8, hh⟩ := id hv
  have cut_18 : ¬ sj_tot (sj_ia S (b 1)) i 2 = 0 → sj_G X S 0 0 [some (.ref h), some (.int (nI i)), some (.int (sj_tot (sj_ia S (b 1)) i 2)), some (.int (sj_sum (fun k => sj_os (sj_ia S (b 1)) i k 2 * sj_os (sj_ia S (b 1)) i k 1) 0)), some (.int (nI 0))] 18 [] := by
    intro hz
    refine sj_down (fun k => sj_G X S 0 0 [some (.ref h), some (.int (nI i)), some (.int (sj_tot (sj_ia S (b 1)) i 2)), some (.int (sj_sum (fun k => sj_os (sj_ia S (b 1)) i k 2 * sj_os (sj_ia S (b 1)) i k 1) k)), some (.int (nI k))] 18 []) (sj_ns (sj_ia S (b 1)) i) (fun k hk ih => ?_)
    refine sj_iload C 20 rfl dX7_loopHeight_18 rfl ?_
    refine sj_aload_n C 21 rfl dX7_loopHeight_20 rfl rfl ?_
    refine sj_iload_n C 22 rfl dX7_loopHeight_21 rfl rfl ?_
    refine sj_iconstv C (1) 23 rfl dX7_loopHeight_22 rfl ?_
    refine sj_callVd C 26 rfl dX7_loopHeight_23 cv_X7_39 rfl (ct_X7_of _ hm i 1 hi (by omega)) rfl rfl rfl ⟨_, _, kd_h, rfl, rfl, by decide⟩ ⟨rfl, rfl⟩ ?_
    refine sj_icmp_ge C 55 29 rfl rfl dX7_loopHeight_26 (fun c_26 => ?_) (fun c_26 => ?_)
    · refine sj_iload_n C 56 rfl dX7_loopHeight_55 rfl rfl ?_
      refine sj_iload_n C 57 rfl dX7_loopHeight_56 rfl rfl ?_
      refine sj_idiv C 58 rfl dX7_loopHeight_57 hz ?_
      refine sj_bipush C (10) 60 rfl dX7_loopHeight_58 (by decide) ?_
      refine sj_imul C 61 rfl dX7_loopHeight_60 ?_
      refine sj_aload_n C 62 rfl dX7_loopHeight_61 rfl rfl ?_
      refine sj_iload_n C 63 rfl dX7_loopHeight_62 rfl rfl ?_
      refine sj_iconstv C (1) 64 rfl dX7_loopHeight_63 rfl ?_
      refine sj_callVd C 67 rfl dX7_loopHeight_64 cv_X7_61 rfl (ct_X7_sumOf _ hm i 1 hi (by omega) hn hn8) rfl rfl rfl ⟨_, _, kd_h, rfl, rfl, by decide⟩ ⟨rfl, rfl⟩ ?_
      refine sj_aload_n C 68 rfl dX7_loopHeight_67 rfl rfl ?_
      refine sj_iload_n C 69 rfl dX7_loopHeight_68 rfl rfl ?_
      refine sj_iconstv C (1) 70 rfl dX7_loopHeight_69 rfl ?_
      refine sj_callVd C 73 rfl dX7_loopHeight_70 cv_X7_39 rfl (ct_X7_of _ hm i 1 hi (by omega)) rfl rfl rfl ⟨_, _, kd_h, rfl, rfl, by decide⟩ ⟨rfl, rfl⟩ ?_
      refine sj_idiv C 74 rfl dX7_loopHeight_73 (by rw [hn]; exact nI_ne0 (by omega) (by omega)) ?_
      refine sj_idiv C 75 rfl dX7_loopHeight_74 (by rw [hn]; exact hh) ?_
      refine sj_iret C hR rfl rfl dX7_loopHeight_75 ?_
      refine ⟨congrArg (fun z => some (Value.int z)) ?_, rfl⟩
      have hke : k = sj_ns (sj_ia S (b 1)) i := by
        have h9 : ¬ k < sj_ns (sj_ia S (b 1)) i := fun h8 => nI_ge h8 (by omega) (by rw [← hn]; exact c_26)
        omega
      subst hke
      unfold sj_lh
      rw [if_neg hz, hn]
    · have hlt : k < sj_ns (sj_ia S (b 1)) i := Nat.not_le.mp fun h9 => c_26 (by rw [hn]; exact nI_le h9 (by omega))
      refine sj_iload_n C 30 rfl dX7_loopHeight_29 rfl rfl ?_
      refine sj_aload_n C 31 rfl dX7_loopHeight_30 rfl rfl ?_
      refine sj_iload_n C 32 rfl dX7_loopHeight_31 rfl rfl ?_
      refine sj_iload C 34 rfl dX7_loopHeight_32 rfl ?_
      refine sj_iconstv C (2) 35 rfl dX7_loopHeight_34 rfl ?_
      refine sj_callVd C 38 rfl dX7_loopHeight_35 cv_X7_57 rfl (ct_X7_ofStroke _ hm i k 2 hi (by omega)) rfl rfl rfl ⟨_, _, kd_h, rfl, rfl, by decide⟩ ⟨rfl, rfl⟩ ?_
      refine sj_aload_n C 39 rfl dX7_loopHeight_38 rfl rfl ?_
      refine sj_iload_n C 40 rfl dX7_loopHeight_39 rfl rfl ?_
      refine sj_iload C 42 rfl dX7_loopHeight_40 rfl ?_
      refine sj_iconstv C (1) 43 rfl dX7_loopHeight_42 rfl ?_
      refine sj_callVd C 46 rfl dX7_loopHeight_43 cv_X7_57 rfl (ct_X7_ofStroke _ hm i k 1 hi (by omega)) rfl rfl rfl ⟨_, _, kd_h, rfl, rfl, by decide⟩ ⟨rfl, rfl⟩ ?_
      refine sj_imul C 47 rfl dX7_loopHeight_46 ?_
      refine sj_iadd C 48 rfl dX7_loopHeight_47 ?_
      refine sj_istore_n_3 C 49 rfl dX7_loopHeight_48 rfl rfl ?_
      refine sj_iinc_4 C 52 rfl dX7_loopHeight_49 rfl rfl ?_
      refine sj_goto C 18 rfl dX7_loopHeight_52 ?_
      rw [sj_n1]
      exact ih hlt
  refine sj_aload_n C 1 rfl dX7_loopHeight_0 rfl rfl ?_
  refine sj_iload_n C 2 rfl dX7_loopHeight_1 rfl rfl ?_
  refine sj_iconstv C (2) 3 rfl dX7_loopHeight_2 rfl ?_
  refine sj_callVd C 6 rfl dX7_loopHeight_3 cv_X7_61 rfl (ct_X7_sumOf _ hm i 2 hi (by omega) hn hn8) rfl rfl rfl ⟨_, _, kd_h, rfl, rfl, by decide⟩ ⟨rfl, rfl⟩ ?_
  refine sj_istore_n_2 C 7 rfl dX7_loopHeight_6 rfl rfl ?_
  refine sj_iload_n C 8 rfl dX7_loopHeight_7 rfl rfl ?_
  refine sj_if_ne C 13 11 rfl rfl dX7_loopHeight_8 (fun c_8 => ?_) (fun c_8 => ?_)
  · refine sj_iconstv C (0) 14 rfl dX7_loopHeight_13 rfl ?_
    refine sj_istore_n_3 C 15 rfl dX7_loopHeight_14 rfl rfl ?_
    refine sj_iconstv C (0) 16 rfl dX7_loopHeight_15 rfl ?_
    refine sj_istore_4 C 18 rfl dX7_loopHeight_16 rfl rfl ?_
    exact cut_18 c_8
  · refine sj_iconstv C (0) 12 rfl dX7_loopHeight_11 rfl ?_
    refine sj_iret C hR rfl rfl dX7_loopHeight_12 ?_
    refine ⟨congrArg (fun z => some (Value.int z)) ?_, rfl⟩
    unfold sj_lh
    rw [if_pos c_8]
set_option maxRecDepth 100000 in
set_option maxHeartbeats 4000000 in
theorem ct_X7_unrest (l : Launch) {S : sj_St} {h : Nat} {b : Nat → Nat} {m : Nat → Int32} (hm : sj_mm S h b m) (i : Nat) (hv : sj_shv m i) : sj_Ctr l mX7_unrest [.ref h, .int (nI i)] S (sj_eq (some (.int (sj_ur m i))) S) := by
  refine sj_start ([some (.ref h), some (.int (nI i)), none, none, none]) (by decide +kernel) rfl rfl (fun X hX C hR => ?_)
  subst hX
  have hm0 := hm
  obtain ⟨hm', em⟩ := hm0
  subst em
  obtain ⟨kd_h, ⟨rf_h_1, kd_a1, il_a1⟩, ⟨rf_h_2, kd_a2, il_a2⟩, ⟨rf_h_3, kd_a3, il_a3⟩, ⟨rf_h_5, kd_a5, il_a5⟩, ⟨rf_h_7, kd_a7, il_a7⟩, ⟨rf_h_13, kd_a13, il_a13⟩, ⟨rf_h_15, kd_a15, il_a15⟩, hinj⟩ := hm'
  obtain ⟨hi, hn, hn1, hn8, hh⟩ := id hv
  have cut_12 : sj_G X S 0 0 [some (.ref h), some (.int (nI i)), some (.int (nI (sj_ns (sj_ia S (b 1)) i))), some (.int (sj_sum (fun k => sj_sz (sj_os (sj_ia S (b 1)) i (k + 1) 3 - sj_os (sj_ia S (b 1)) i k 3)) 0)), some (.int (nI 1))] 12 [] := by
    refine sj_down (fun k => sj_G X S 0 0 [some (.ref h), some (.int (nI i)), some (.int (nI (sj_ns (sj_ia S (b 1)) i))), some (.int (sj_sum (fun k => sj_sz (sj_os (sj_ia S (b 1)) i (k + 1) 3 - sj_os (sj_ia S (b 1)) i k 3)) k)), some (.int (nI (k + 1)))] 12 []) (sj_ns (sj_ia S (b 1)) i - 1) (fun k hk ih => ?_)
    refine sj_iload C 14 rfl dX7_unrest_12 rfl ?_
    refine sj_iload_n C 15 rfl dX7_unrest_14 rfl rfl ?_
    refine sj_icmp_ge C 49 18 rfl rfl dX7_unrest_15 (fun c_15 => ?_) (fun c_15 => ?_)
    · refine sj_iload_n C 50 rfl dX7_unrest_49 rfl rfl ?_
      have hke : k = sj_ns (sj_ia S (b 1)) i - 1 := by
        have h9 : ¬ k < sj_ns (sj_ia S (b 1)) i - 1 := fun h8 => nI_ge (a := k + 1) (b := sj_ns (sj_ia S (b 1)) i) (by omega) (by omega) c_15
        omega
      refine sj_iconstv C (1) 51 rfl dX7_unrest_50 rfl ?_
      refine sj_icmp_ne C 58 54 rfl rfl dX7_unrest_51 (fun c_51 => ?_) (fun c_51 => ?_)
      · refine sj_iload_n C 59 rfl dX7_unrest_58 rfl rfl ?_
        refine sj_bipush C (10) 61 rfl dX7_unrest_59 (by decide) ?_
        refine sj_imul C 62 rfl dX7_unrest_61 ?_
        refine sj_iload_n C 63 rfl dX7_unrest_62 rfl rfl ?_
        refine sj_iconstv C (1) 64 rfl dX7_unrest_63 rfl ?_
        refine sj_isub C 65 rfl dX7_unrest_64 ?_
        refine sj_idiv C 66 rfl dX7_unrest_65 (by rw [show nI (sj_ns (sj_ia S (b 1)) i) - 1 = nI (sj_ns (sj_ia S (b 1)) i - 1) from sj_nsub (b := 1) hn1]; refine nI_ne0 ?_ (by omega); have h9 : ¬ sj_ns (sj_ia S (b 1)) i = 1 := fun h8 => c_51 (by rw [h8]; rfl); omega) ?_
        refine sj_iret C hR rfl rfl dX7_unrest_66 ?_
        refine ⟨congrArg (fun z => some (Value.int z)) ?_, rfl⟩
        unfold sj_ur
        have h9 : ¬ sj_ns (sj_ia S (b 1)) i = 1 := fun h8 => c_51 (by rw [h8]; rfl)
        rw [if_neg h9, hke]
      · refine sj_iconstv C (0) 55 rfl dX7_unrest_54 rfl ?_
        refine sj_goto C 66 rfl dX7_unrest_55 ?_
        refine sj_iret C hR rfl rfl dX7_unrest_66 ?_
        refine ⟨congrArg (fun z => some (Value.int z)) ?_, rfl⟩
        unfold sj_ur
        have h9 : sj_ns (sj_ia S (b 1)) i = 1 := (nI_eq (by omega) (by omega)).mp c_51
        rw [if_pos h9]
    · have hlt : k < sj_ns (sj_ia S (b 1)) i - 1 := Nat.not_le.mp fun h9 => c_15 (nI_le (by omega) (by omega))
      refine sj_iload_n C 19 rfl dX7_unrest_18 rfl rfl ?_
      refine sj_aload_n C 20 rfl dX7_unrest_19 rfl rfl ?_
      refine sj_iload_n C 21 rfl dX7_unrest_20 rfl rfl ?_
      refine sj_iload C 23 rfl dX7_unrest_21 rfl ?_
      refine sj_iconstv C (3) 24 rfl dX7_unrest_23 rfl ?_
      refine sj_callVd C 27 rfl dX7_unrest_24 cv_X7_57 rfl (ct_X7_ofStroke _ hm i (k + 1) 3 hi (by omega)) rfl rfl rfl ⟨_, _, kd_h, rfl, rfl, by decide⟩ ⟨rfl, rfl⟩ ?_
      refine sj_aload_n C 28 rfl dX7_unrest_27 rfl rfl ?_
      refine sj_iload_n C 29 rfl dX7_unrest_28 rfl rfl ?_
      refine sj_iload C 31 rfl dX7_unrest_29 rfl ?_
      refine sj_iconstv C (1) 32 rfl dX7_unrest_31 rfl ?_
      refine sj_isub C 33 rfl dX7_unrest_32 ?_
      rw [show nI (k + 1) - 1 = nI k from nI_pred k]
      refine sj_iconstv C (3) 34 rfl dX7_unrest_33 rfl ?_
      refine sj_callVd C 37 rfl dX7_unrest_34 cv_X7_57 rfl (ct_X7_ofStroke _ hm i k 3 hi (by omega)) rfl rfl rfl ⟨_, _, kd_h, rfl, rfl, by decide⟩ ⟨rfl, rfl⟩ ?_
      refine sj_isub C 38 rfl dX7_unrest_37 ?_
      refine sj_callSd C 41 rfl dX7_unrest_38 cv_X7_64 rfl (ct_X7_sizeOf _ _ _) rfl rfl rfl ⟨rfl, rfl⟩ ?_
      refine sj_iadd C 42 rfl dX7_unrest_41 ?_
      refine sj_istore_n_3 C 43 rfl dX7_unrest_42 rfl rfl ?_
      refine sj_iinc_4 C 46 rfl dX7_unrest_43 rfl rfl ?_
      refine sj_goto C 12 rfl dX7_unrest_46 ?_
      rw [sj_n1]
      exact ih hlt
  refine sj_aload_n C 1 rfl dX7_unrest_0 rfl rfl ?_
  refine sj_iload_n C 2 rfl dX7_unrest_1 rfl rfl ?_
  refine sj_iconstv C (1) 3 rfl dX7_unrest_2 rfl ?_
  refine sj_callVd C 6 rfl dX7_unrest_3 cv_X7_39 rfl (ct_X7_of _ hm i 1 hi (by omega)) rfl rfl rfl ⟨_, _, kd_h, rfl, rfl, by decide⟩ ⟨rfl, rfl⟩ ?_
  refine sj_istore_n_2 C 7 rfl dX7_unrest_6 rfl rfl ?_
  refine sj_iconstv C (0) 8 rfl dX7_unrest_7 rfl ?_
  refine sj_istore_n_3 C 9 rfl dX7_unrest_8 rfl rfl ?_
  refine sj_iconstv C (1) 10 rfl dX7_unrest_9 rfl ?_
  refine sj_istore_4 C 12 rfl dX7_unrest_10 rfl rfl ?_
  rw [hn]
  exact cut_12
set_option maxRecDepth 100000 in
set_option maxHeartbeats 4000000 in
theorem ct_X7_markOf (l : Launch) {S : sj_St} {h : Nat} {b : Nat → Nat} {m : Nat → Int32} (hm : sj_mm S h b m) (i : Nat) (hv : sj_shv m i) (j : Nat) (hj : j < 6) : sj_Ctr l mX7_markOf [.ref h, .int (nI i), .int (nI j)] S (sj_eq (some (.int (sj_mk m i j))) S) := by
  refine sj_start ([some (.ref h), some (.int (nI i)), some (.int (nI j))]) (by decide +kernel) rfl rfl (fun X hX C hR => ?_)
  subst hX
  have hm0 := hm
  obtain ⟨hm', em⟩ := hm0
  subst em
  obtain ⟨kd_h, ⟨rf_h_1, kd_a1, il_a1⟩, ⟨rf_h_2, kd_a2, il_a2⟩, ⟨rf_h_3, kd_a3, il_a3⟩, ⟨rf_h_5, kd_a5, il_a5⟩, ⟨rf_h_7, kd_a7, il_a7⟩, ⟨rf_h_13, kd_a13, il_a13⟩, ⟨rf_h_15, kd_a15, il_a15⟩, hinj⟩ := hm'
  obtain ⟨hi, hn, hn1, hn8, hh⟩ := id hv
  refine sj_iload_n C 1 rfl dX7_markOf_0 rfl rfl ?_
  obtain rfl | rfl | rfl | rfl | rfl | rfl : j = 0 ∨ j = 1 ∨ j = 2 ∨ j = 3 ∨ j = 4 ∨ j = 5 := by omega
  · refine sj_tableIn C 36 dX7_markOf_1 (by decide) (by decide) rfl rfl ?_
    refine sj_aload_n C 37 rfl dX7_markOf_36 rfl rfl ?_
    refine sj_iload_n C 38 rfl dX7_markOf_37 rfl rfl ?_
    refine sj_iconstv C (0) 39 rfl dX7_markOf_38 rfl ?_
    refine sj_callVd C 42 rfl dX7_markOf_39 cv_X7_61 rfl (ct_X7_sumOf _ hm i 0 hi (by omega) hn hn8) rfl rfl rfl ⟨_, _, kd_h, rfl, rfl, by decide⟩ ⟨rfl, rfl⟩ ?_
    refine sj_aload_n C 43 rfl dX7_markOf_42 rfl rfl ?_
    refine sj_iload_n C 44 rfl dX7_markOf_43 rfl rfl ?_
    refine sj_iconstv C (1) 45 rfl dX7_markOf_44 rfl ?_
    refine sj_callVd C 48 rfl dX7_markOf_45 cv_X7_39 rfl (ct_X7_of _ hm i 1 hi (by omega)) rfl rfl rfl ⟨_, _, kd_h, rfl, rfl, by decide⟩ ⟨rfl, rfl⟩ ?_
    refine sj_callSd C 51 rfl dX7_markOf_48 cv_X7_67 rfl (ct_X7_divided _ _ _ _ (by rw [hn]; exact nI_ne0 (by omega) (by omega))) rfl rfl rfl ⟨rfl, rfl⟩ ?_
    refine sj_iret C hR rfl rfl dX7_markOf_51 ?_
    refine ⟨congrArg (fun z => some (Value.int z)) ?_, rfl⟩
    show _ = sj_dv _ _
    rw [hn]
  · refine sj_tableIn C 52 dX7_markOf_1 (by decide) (by decide) rfl rfl ?_
    refine sj_aload_n C 53 rfl dX7_markOf_52 rfl rfl ?_
    refine sj_iload_n C 54 rfl dX7_markOf_53 rfl rfl ?_
    refine sj_callVd C 57 rfl dX7_markOf_54 cv_X7_70 rfl (ct_X7_spread _ hm i hv) rfl rfl rfl ⟨_, _, kd_h, rfl, rfl, by decide⟩ ⟨rfl, rfl⟩ ?_
    refine sj_iret C hR rfl rfl dX7_markOf_57 ?_
    refine ⟨congrArg (fun z => some (Value.int z)) ?_, rfl⟩
    rfl
  · refine sj_tableIn C 58 dX7_markOf_1 (by decide) (by decide) rfl rfl ?_
    refine sj_aload_n C 59 rfl dX7_markOf_58 rfl rfl ?_
    refine sj_iload_n C 60 rfl dX7_markOf_59 rfl rfl ?_
    refine sj_callVd C 63 rfl dX7_markOf_60 cv_X7_73 rfl (ct_X7_loopHeight _ hm i hv) rfl rfl rfl ⟨_, _, kd_h, rfl, rfl, by decide⟩ ⟨rfl, rfl⟩ ?_
    refine sj_iret C hR rfl rfl dX7_markOf_63 ?_
    refine ⟨congrArg (fun z => some (Value.int z)) ?_, rfl⟩
    rfl
  · refine sj_tableIn C 64 dX7_markOf_1 (by decide) (by decide) rfl rfl ?_
    refine sj_bipush C (100) 66 rfl dX7_markOf_64 (by decide) ?_
    refine sj_aload_n C 67 rfl dX7_markOf_66 rfl rfl ?_
    refine sj_iload_n C 68 rfl dX7_markOf_67 rfl rfl ?_
    refine sj_iconstv C (2) 69 rfl dX7_markOf_68 rfl ?_
    refine sj_callVd C 72 rfl dX7_markOf_69 cv_X7_61 rfl (ct_X7_sumOf _ hm i 2 hi (by omega) hn hn8) rfl rfl rfl ⟨_, _, kd_h, rfl, rfl, by decide⟩ ⟨rfl, rfl⟩ ?_
    refine sj_imul C 73 rfl dX7_markOf_72 ?_
    refine sj_aload_n C 74 rfl dX7_markOf_73 rfl rfl ?_
    refine sj_iload_n C 75 rfl dX7_markOf_74 rfl rfl ?_
    refine sj_iconstv C (1) 76 rfl dX7_markOf_75 rfl ?_
    refine sj_callVd C 79 rfl dX7_markOf_76 cv_X7_39 rfl (ct_X7_of _ hm i 1 hi (by omega)) rfl rfl rfl ⟨_, _, kd_h, rfl, rfl, by decide⟩ ⟨rfl, rfl⟩ ?_
    refine sj_idiv C 80 rfl dX7_markOf_79 (by rw [hn]; exact nI_ne0 (by omega) (by omega)) ?_
    refine sj_iret C hR rfl rfl dX7_markOf_80 ?_
    refine ⟨congrArg (fun z => some (Value.int z)) ?_, rfl⟩
    show _ = 100 * _ / _
    rw [hn]
  · refine sj_tableIn C 81 dX7_markOf_1 (by decide) (by decide) rfl rfl ?_
    refine sj_bipush C (10) 83 rfl dX7_markOf_81 (by decide) ?_
    refine sj_aload_n C 84 rfl dX7_markOf_83 rfl rfl ?_
    refine sj_iload_n C 85 rfl dX7_markOf_84 rfl rfl ?_
    refine sj_iconstv C (3) 86 rfl dX7_markOf_85 rfl ?_
    refine sj_callVd C 89 rfl dX7_markOf_86 cv_X7_61 rfl (ct_X7_sumOf _ hm i 3 hi (by omega) hn hn8) rfl rfl rfl ⟨_, _, kd_h, rfl, rfl, by decide⟩ ⟨rfl, rfl⟩ ?_
    refine sj_imul C 90 rfl dX7_markOf_89 ?_
    refine sj_aload_n C 91 rfl dX7_markOf_90 rfl rfl ?_
    refine sj_iload_n C 92 rfl dX7_markOf_91 rfl rfl ?_
    refine sj_iconstv C (1) 93 rfl dX7_markOf_92 rfl ?_
    refine sj_callVd C 96 rfl dX7_markOf_93 cv_X7_39 rfl (ct_X7_of _ hm i 1 hi (by omega)) rfl rfl rfl ⟨_, _, kd_h, rfl, rfl, by decide⟩ ⟨rfl, rfl⟩ ?_
    refine sj_idiv C 97 rfl dX7_markOf_96 (by rw [hn]; exact nI_ne0 (by omega) (by omega)) ?_
    refine sj_iret C hR rfl rfl dX7_markOf_97 ?_
    refine ⟨congrArg (fun z => some (Value.int z)) ?_, rfl⟩
    show _ = 10 * _ / _
    rw [hn]
  · refine sj_tableOut C 98 dX7_markOf_1 (by decide) rfl ?_
    refine sj_aload_n C 99 rfl dX7_markOf_98 rfl rfl ?_
    refine sj_iload_n C 100 rfl dX7_markOf_99 rfl rfl ?_
    refine sj_callVd C 103 rfl dX7_markOf_100 cv_X7_76 rfl (ct_X7_unrest _ hm i hv) rfl rfl rfl ⟨_, _, kd_h, rfl, rfl, by decide⟩ ⟨rfl, rfl⟩ ?_
    refine sj_iret C hR rfl rfl dX7_markOf_103 ?_
    refine ⟨congrArg (fun z => some (Value.int z)) ?_, rfl⟩
    rfl
def sj_hf (m : Nat → Int32) (i : Nat) : Bool := decide (m 6 ≤ sj_of m i 0)
def sj_gn (m : Nat → Int32) (i e j : Nat) : Bool := (decide (j = 2) || decide (j = 3)) && (sj_hf m i || sj_hf m e)
def sj_dfr (m : Nat → Int32) (i e j : Nat) : Int32 := sj_sz (sj_mk m i j - sj_mk m e j) - sj_sz (sj_of m i 0 - sj_of m e 0) / 10
def sj_agb (m : Nat → Int32) (i e j : Nat) : Bool := !sj_gn m i e j && decide (sj_dfr m i e j ≤ m j)
def sj_agr (m : Nat → Int32) (i e : Nat) : Nat → Int32
  | 0 => 0
  | j + 1 => sj_agr m i e j ||| (if sj_agb m i e j then 1 <<< (nI j &&& 31) else 0)
def sj_ones (x : Int32) : Int32 := sj_sum (fun k => (x >>> (nI k &&& 31)) &&& 1) 8
def sj_lik (m : Nat → Int32) (i e : Nat) : Int32 := sj_ones (sj_agr m i e 6)
def sj_trm (m : Nat → Int32) (i : Nat) : Bool := decide (nI (sj_ns m i) * m 7 < sj_tot m i 4)
theorem sj_wi23 {j : Nat} (hj : j < 6) : sj_wi (nI j) 2 3 = (decide (j = 2) || decide (j = 3)) := by
  obtain rfl | rfl | rfl | rfl | rfl | rfl : j = 0 ∨ j = 1 ∨ j = 2 ∨ j = 3 ∨ j = 4 ∨ j = 5 := by omega
  all_goals decide
set_option maxRecDepth 100000 in
set_option maxHeartbeats 4000000 in
theorem ct_X7_hasFaded (l : Launch) {S : sj_St} {h : Nat} {b : Nat → Nat} {m : Nat → Int32} (hm : sj_mm S h b m) (i : Nat) (hi : i < 8) : sj_Ctr l mX7_hasFaded [.ref h, .int (nI i)] S (sj_eq (some (.int (sj_bi (sj_hf m i)))) S) := by
  refine sj_start ([some (.ref h), some (.int (nI i))]) (by decide +kernel) rfl rfl (fun X hX C hR => ?_)
  subst hX
  have hm0 := hm
  obtain ⟨hm', em⟩ := hm0
  subst em
  obtain ⟨kd_h, ⟨rf_h_1, kd_a1, il_a1⟩, ⟨rf_h_2, kd_a2, il_a2⟩, ⟨rf_h_3, kd_a3, il_a3⟩, ⟨rf_h_5, kd_a5, il_a5⟩, ⟨rf_h_7, kd_a7, il_a7⟩, ⟨rf_h_13, kd_a13, il_a13⟩, ⟨rf_h_15, kd_a15, il_a15⟩, hinj⟩ := hm'
  refine sj_aload_n C 1 rfl dX7_hasFaded_0 rfl rfl ?_
  refine sj_iload_n C 2 rfl dX7_hasFaded_1 rfl rfl ?_
  refine sj_iconstv C (0) 3 rfl dX7_hasFaded_2 rfl ?_
  refine sj_callVd C 6 rfl dX7_hasFaded_3 cv_X7_39 rfl (ct_X7_of _ hm i 0 hi (by omega)) rfl rfl rfl ⟨_, _, kd_h, rfl, rfl, by decide⟩ ⟨rfl, rfl⟩ ?_
  refine sj_aload_n C 7 rfl dX7_hasFaded_6 rfl rfl ?_
  refine sj_getr C 10 rfl fd_X7_7 dX7_hasFaded_7 kd_h rf_h_1 ?_
  refine sj_bipush C (6) 12 rfl dX7_hasFaded_10 (by decide) ?_
  refine sj_iald C 13 rfl dX7_hasFaded_12 kd_a1 (by show vp_in (nI 6) (sj_il S (b 1)); rw [il_a1]; exact vp_in_nI (by omega) (by omega)) ?_
  rw [show Int32.toNatClampNeg (6) = 6 from rfl]
  refine sj_icmp_lt C 20 16 rfl rfl dX7_hasFaded_13 (fun c_13 => ?_) (fun c_13 => ?_)
  · refine sj_iconstv C (0) 21 rfl dX7_hasFaded_20 rfl ?_
    refine sj_zret C hR rfl rfl rfl dX7_hasFaded_21 ?_
    refine ⟨congrArg (fun z => some (Value.int z)) ?_, rfl⟩
    unfold sj_hf
    rw [decide_eq_false (sj_nle.mpr c_13)]
    rfl
  · refine sj_iconstv C (1) 17 rfl dX7_hasFaded_16 rfl ?_
    refine sj_goto C 21 rfl dX7_hasFaded_17 ?_
    refine sj_zret C hR rfl rfl rfl dX7_hasFaded_21 ?_
    refine ⟨congrArg (fun z => some (Value.int z)) ?_, rfl⟩
    unfold sj_hf
    rw [decide_eq_true (sj_nlt.mp c_13)]
    rfl
set_option maxRecDepth 100000 in
set_option maxHeartbeats 4000000 in
theorem ct_X7_isGone (l : Launch) {S : sj_St} {h : Nat} {b : Nat → Nat} {m : Nat → Int32} (hm : sj_mm S h b m) (i e j : Nat) (hi : i < 8) (he : e < 8) (hj : j < 6) : sj_Ctr l mX7_isGone [.ref h, .int (nI i), .int (nI e), .int (nI j)] S (sj_eq (some (.int (sj_bi (sj_gn m i e j)))) S) := by
  refine sj_start ([some (.ref h), some (.int (nI i)), some (.int (nI e)), some (.int (nI j))]) (by decide +kernel) rfl rfl (fun X hX C hR => ?_)
  subst hX
  have hm0 := hm
  obtain ⟨hm', em⟩ := hm0
  subst em
  obtain ⟨kd_h, ⟨rf_h_1, kd_a1, il_a1⟩, ⟨rf_h_2, kd_a2, il_a2⟩, ⟨rf_h_3, kd_a3, il_a3⟩, ⟨rf_h_5, kd_a5, il_a5⟩, ⟨rf_h_7, kd_a7, il_a7⟩, ⟨rf_h_13, kd_a13, il_a13⟩, ⟨rf_h_15, kd_a15, il_a15⟩, hinj⟩ := hm'
  refine sj_iload_n C 1 rfl dX7_isGone_0 rfl rfl ?_
  refine sj_iconstv C (2) 2 rfl dX7_isGone_1 rfl ?_
  refine sj_iconstv C (3) 3 rfl dX7_isGone_2 rfl ?_
  refine sj_callSd C 6 rfl dX7_isGone_3 cv_X7_35 rfl (ct_X7_within _ _ _ _ _) rfl rfl rfl ⟨rfl, rfl⟩ ?_
  rw [sj_wi23 hj]
  refine sj_if_eq C 29 9 rfl rfl dX7_isGone_6 (fun c_6 => ?_) (fun c_6 => ?_)
  · refine sj_iconstv C (0) 30 rfl dX7_isGone_29 rfl ?_
    refine sj_zret C hR rfl rfl rfl dX7_isGone_30 ?_
    refine ⟨congrArg (fun z => some (Value.int z)) ?_, rfl⟩
    unfold sj_gn
    rw [sj_bi0.mp c_6, Bool.false_and]
    rfl
  · refine sj_aload_n C 10 rfl dX7_isGone_9 rfl rfl ?_
    refine sj_iload_n C 11 rfl dX7_isGone_10 rfl rfl ?_
    refine sj_callVd C 14 rfl dX7_isGone_11 cv_X7_79 rfl (ct_X7_hasFaded _ hm i hi) rfl rfl rfl ⟨_, _, kd_h, rfl, rfl, by decide⟩ ⟨rfl, rfl⟩ ?_
    refine sj_if_ne C 25 17 rfl rfl dX7_isGone_14 (fun c_14 => ?_) (fun c_14 => ?_)
    · refine sj_iconstv C (1) 26 rfl dX7_isGone_25 rfl ?_
      refine sj_goto C 30 rfl dX7_isGone_26 ?_
      refine sj_zret C hR rfl rfl rfl dX7_isGone_30 ?_
      refine ⟨congrArg (fun z => some (Value.int z)) ?_, rfl⟩
      unfold sj_gn
      rw [sj_bin.mp c_6, sj_bin.mp c_14]
      rfl
    · refine sj_aload_n C 18 rfl dX7_isGone_17 rfl rfl ?_
      refine sj_iload_n C 19 rfl dX7_isGone_18 rfl rfl ?_
      refine sj_callVd C 22 rfl dX7_isGone_19 cv_X7_79 rfl (ct_X7_hasFaded _ hm e he) rfl rfl rfl ⟨_, _, kd_h, rfl, rfl, by decide⟩ ⟨rfl, rfl⟩ ?_
      refine sj_if_eq C 29 25 rfl rfl dX7_isGone_22 (fun c_22 => ?_) (fun c_22 => ?_)
      · refine sj_iconstv C (0) 30 rfl dX7_isGone_29 rfl ?_
        refine sj_zret C hR rfl rfl rfl dX7_isGone_30 ?_
        refine ⟨congrArg (fun z => some (Value.int z)) ?_, rfl⟩
        unfold sj_gn
        rw [sj_bin.mp c_6, sj_bi0.mp c_14, sj_bi0.mp c_22]
        rfl
      · refine sj_iconstv C (1) 26 rfl dX7_isGone_25 rfl ?_
        refine sj_goto C 30 rfl dX7_isGone_26 ?_
        refine sj_zret C hR rfl rfl rfl dX7_isGone_30 ?_
        refine ⟨congrArg (fun z => some (Value.int z)) ?_, rfl⟩
        unfold sj_gn
        rw [sj_bin.mp c_6, sj_bi0.mp c_14, sj_bin.mp c_22]
        rfl
set_option maxRecDepth 100000 in
set_option maxHeartbeats 4000000 in
theorem ct_X7_differ (l : Launch) {S : sj_St} {h : Nat} {b : Nat → Nat} {m : Nat → Int32} (hm : sj_mm S h b m) (i e : Nat) (hv : sj_shv m i) (hw : sj_shv m e) (j : Nat) (hj : j < 6) : sj_Ctr l mX7_differ [.ref h, .int (nI i), .int (nI e), .int (nI j)] S (sj_eq (some (.int (sj_dfr m i e j))) S) := by
  refine sj_start ([some (.ref h), some (.int (nI i)), some (.int (nI e)), some (.int (nI j))]) (by decide +kernel) rfl rfl (fun X hX C hR => ?_)
  subst hX
  have hm0 := hm
  obtain ⟨hm', em⟩ := hm0
  subst em
  obtain ⟨kd_h, ⟨rf_h_1, kd_a1, il_a1⟩, ⟨rf_h_2, kd_a2, il_a2⟩, ⟨rf_h_3, kd_a3, il_a3⟩, ⟨rf_h_5, kd_a5, il_a5⟩, ⟨rf_h_7, kd_a7, il_a7⟩, ⟨rf_h_13, kd_a13, il_a13⟩, ⟨rf_h_15, kd_a15, il_a15⟩, hinj⟩ := hm'
  refine sj_aload_n C 1 rfl dX7_differ_0 rfl rfl ?_
  refine sj_iload_n C 2 rfl dX7_differ_1 rfl rfl ?_
  refine sj_iload_n C 3 rfl dX7_differ_2 rfl rfl ?_
  refine sj_callVd C 6 rfl dX7_differ_3 cv_X7_83 rfl (ct_X7_markOf _ hm i hv j hj) rfl rfl rfl ⟨_, _, kd_h, rfl, rfl, by decide⟩ ⟨rfl, rfl⟩ ?_
  refine sj_aload_n C 7 rfl dX7_differ_6 rfl rfl ?_
  refine sj_iload_n C 8 rfl dX7_differ_7 rfl rfl ?_
  refine sj_iload_n C 9 rfl dX7_differ_8 rfl rfl ?_
  refine sj_callVd C 12 rfl dX7_differ_9 cv_X7_83 rfl (ct_X7_markOf _ hm e hw j hj) rfl rfl rfl ⟨_, _, kd_h, rfl, rfl, by decide⟩ ⟨rfl, rfl⟩ ?_
  refine sj_isub C 13 rfl dX7_differ_12 ?_
  refine sj_callSd C 16 rfl dX7_differ_13 cv_X7_64 rfl (ct_X7_sizeOf _ _ _) rfl rfl rfl ⟨rfl, rfl⟩ ?_
  refine sj_aload_n C 17 rfl dX7_differ_16 rfl rfl ?_
  refine sj_iload_n C 18 rfl dX7_differ_17 rfl rfl ?_
  refine sj_iconstv C (0) 19 rfl dX7_differ_18 rfl ?_
  refine sj_callVd C 22 rfl dX7_differ_19 cv_X7_39 rfl (ct_X7_of _ hm i 0 hv.1 (by omega)) rfl rfl rfl ⟨_, _, kd_h, rfl, rfl, by decide⟩ ⟨rfl, rfl⟩ ?_
  refine sj_aload_n C 23 rfl dX7_differ_22 rfl rfl ?_
  refine sj_iload_n C 24 rfl dX7_differ_23 rfl rfl ?_
  refine sj_iconstv C (0) 25 rfl dX7_differ_24 rfl ?_
  refine sj_callVd C 28 rfl dX7_differ_25 cv_X7_39 rfl (ct_X7_of _ hm e 0 hw.1 (by omega)) rfl rfl rfl ⟨_, _, kd_h, rfl, rfl, by decide⟩ ⟨rfl, rfl⟩ ?_
  refine sj_isub C 29 rfl dX7_differ_28 ?_
  refine sj_callSd C 32 rfl dX7_differ_29 cv_X7_64 rfl (ct_X7_sizeOf _ _ _) rfl rfl rfl ⟨rfl, rfl⟩ ?_
  refine sj_bipush C (10) 34 rfl dX7_differ_32 (by decide) ?_
  refine sj_idiv C 35 rfl dX7_differ_34 (by decide) ?_
  refine sj_isub C 36 rfl dX7_differ_35 ?_
  refine sj_iret C hR rfl rfl dX7_differ_36 ?_
  exact ⟨rfl, rfl⟩
set_option maxRecDepth 100000 in
set_option maxHeartbeats 4000000 in
theorem ct_X7_agreeing (l : Launch) {S : sj_St} {h : Nat} {b : Nat → Nat} {m : Nat → Int32} (hm : sj_mm S h b m) (i e : Nat) (hv : sj_shv m i) (hw : sj_shv m e) : sj_Ctr l mX7_agreeing [.ref h, .int (nI i), .int (nI e)] S (sj_eq (some (.int (sj_agr m i e 6))) S) := by
  refine sj_start ([some (.ref h), some (.int (nI i)), some (.int (nI e)), none, none]) (by decide +kernel) rfl rfl (fun X hX C hR => ?_)
  subst hX
  have hm0 := hm
  obtain ⟨hm', em⟩ := hm0
  subst em
  obtain ⟨kd_h, ⟨rf_h_1, kd_a1, il_a1⟩, ⟨rf_h_2, kd_a2, il_a2⟩, ⟨rf_h_3, kd_a3, il_a3⟩, ⟨rf_h_5, kd_a5, il_a5⟩, ⟨rf_h_7, kd_a7, il_a7⟩, ⟨rf_h_13, kd_a13, il_a13⟩, ⟨rf_h_15, kd_a15, il_a15⟩, hinj⟩ := hm'
  have cut_5 : sj_G X S 0 0 [some (.ref h), some (.int (nI i)), some (.int (nI e)), some (.int (sj_agr (sj_ia S (b 1)) i e 0)), some (.int (nI 0))] 5 [] := by
    refine sj_down (fun k => sj_G X S 0 0 [some (.ref h), some (.int (nI i)), some (.int (nI e)), some (.int (sj_agr (sj_ia S (b 1)) i e k)), some (.int (nI k))] 5 []) 6 (fun k hk ih => ?_)
    refine sj_iload C 7 rfl dX7_agreeing_5 rfl ?_
    refine sj_bipush C (6) 9 rfl dX7_agreeing_7 (by decide) ?_
    refine sj_icmp_ge C 60 12 rfl rfl dX7_agreeing_9 (fun c_9 => ?_) (fun c_9 => ?_)
    · refine sj_iload_n C 61 rfl dX7_agreeing_60 rfl rfl ?_
      refine sj_iret C hR rfl rfl dX7_agreeing_61 ?_
      refine ⟨congrArg (fun z => some (Value.int z)) ?_, rfl⟩
      have hke : k = 6 := by
        have h9 : ¬ k < 6 := fun h8 => nI_ge (b := 6) h8 (by omega) c_9
        omega
      subst hke
      rfl
    · have hlt : k < 6 := Nat.not_le.mp fun h9 => c_9 (nI_le (a := 6) h9 (by omega))
      refine sj_iload_n C 13 rfl dX7_agreeing_12 rfl rfl ?_
      refine sj_aload_n C 14 rfl dX7_agreeing_13 rfl rfl ?_
      refine sj_iload_n C 15 rfl dX7_agreeing_14 rfl rfl ?_
      refine sj_iload_n C 16 rfl dX7_agreeing_15 rfl rfl ?_
      refine sj_iload C 18 rfl dX7_agreeing_16 rfl ?_
      refine sj_callVd C 21 rfl dX7_agreeing_18 cv_X7_86 rfl (ct_X7_isGone _ hm i e k hv.1 hw.1 hlt) rfl rfl rfl ⟨_, _, kd_h, rfl, rfl, by decide⟩ ⟨rfl, rfl⟩ ?_
      refine sj_if_ne C 51 24 rfl rfl dX7_agreeing_21 (fun c_21 => ?_) (fun c_21 => ?_)
      · refine sj_iconstv C (0) 52 rfl dX7_agreeing_51 rfl ?_
        refine sj_ior C 53 rfl dX7_agreeing_52 ?_
        refine sj_istore_n_3 C 54 rfl dX7_agreeing_53 rfl rfl ?_
        refine sj_iinc_4 C 57 rfl dX7_agreeing_54 rfl rfl ?_
        refine sj_goto C 5 rfl dX7_agreeing_57 ?_
        have eb : sj_agb (sj_ia S (b 1)) i e k = false := by
          unfold sj_agb
          rw [sj_bin.mp c_21]
          rfl
        have ea : sj_agr (sj_ia S (b 1)) i e (k + 1) = sj_agr (sj_ia S (b 1)) i e k ||| (if sj_agb (sj_ia S (b 1)) i e k then 1 <<< (nI k &&& 31) else 0) := rfl
        have ih' := ih hlt
        rw [ea, eb] at ih'
        rw [sj_n1]
        exact ih'
      · refine sj_aload_n C 25 rfl dX7_agreeing_24 rfl rfl ?_
        refine sj_iload_n C 26 rfl dX7_agreeing_25 rfl rfl ?_
        refine sj_iload_n C 27 rfl dX7_agreeing_26 rfl rfl ?_
        refine sj_iload C 29 rfl dX7_agreeing_27 rfl ?_
        refine sj_callVd C 32 rfl dX7_agreeing_29 cv_X7_89 rfl (ct_X7_differ _ hm i e hv hw k hlt) rfl rfl rfl ⟨_, _, kd_h, rfl, rfl, by decide⟩ ⟨rfl, rfl⟩ ?_
        refine sj_aload_n C 33 rfl dX7_agreeing_32 rfl rfl ?_
        refine sj_getr C 36 rfl fd_X7_7 dX7_agreeing_33 kd_h rf_h_1 ?_
        refine sj_iconstv C (0) 37 rfl dX7_agreeing_36 rfl ?_
        refine sj_iload C 39 rfl dX7_agreeing_37 rfl ?_
        refine sj_iadd C 40 rfl dX7_agreeing_39 ?_
        rw [show (0 : Int32) + nI k = nI k from Int32.zero_add _]
        refine sj_iald C 41 rfl dX7_agreeing_40 kd_a1 (by show vp_in _ (sj_il S (b 1)); rw [il_a1]; exact vp_in_nI (by omega) (by omega)) ?_
        refine sj_icmp_gt C 51 44 rfl rfl dX7_agreeing_41 (fun c_41 => ?_) (fun c_41 => ?_)
        · refine sj_iconstv C (0) 52 rfl dX7_agreeing_51 rfl ?_
          refine sj_ior C 53 rfl dX7_agreeing_52 ?_
          refine sj_istore_n_3 C 54 rfl dX7_agreeing_53 rfl rfl ?_
          refine sj_iinc_4 C 57 rfl dX7_agreeing_54 rfl rfl ?_
          refine sj_goto C 5 rfl dX7_agreeing_57 ?_
          rw [nI_clamp (by omega)] at c_41
          have eb : sj_agb (sj_ia S (b 1)) i e k = false := by
            unfold sj_agb
            rw [sj_bi0.mp c_21, decide_eq_false (sj_nle.mpr c_41)]
            rfl
          have ea : sj_agr (sj_ia S (b 1)) i e (k + 1) = sj_agr (sj_ia S (b 1)) i e k ||| (if sj_agb (sj_ia S (b 1)) i e k then 1 <<< (nI k &&& 31) else 0) := rfl
          have ih' := ih hlt
          rw [ea, eb] at ih'
          rw [sj_n1]
          exact ih'
        · refine sj_iconstv C (1) 45 rfl dX7_agreeing_44 rfl ?_
          refine sj_iload C 47 rfl dX7_agreeing_45 rfl ?_
          refine sj_ishl C 48 rfl dX7_agreeing_47 ?_
          refine sj_goto C 52 rfl dX7_agreeing_48 ?_
          refine sj_ior C 53 rfl dX7_agreeing_52 ?_
          refine sj_istore_n_3 C 54 rfl dX7_agreeing_53 rfl rfl ?_
          refine sj_iinc_4 C 57 rfl dX7_agreeing_54 rfl rfl ?_
          refine sj_goto C 5 rfl dX7_agreeing_57 ?_
          rw [nI_clamp (by omega)] at c_41
          have eb : sj_agb (sj_ia S (b 1)) i e k = true := by
            unfold sj_agb
            rw [sj_bi0.mp c_21, decide_eq_true (sj_nlt.mp c_41)]
            rfl
          have ea : sj_agr (sj_ia S (b 1)) i e (k + 1) = sj_agr (sj_ia S (b 1)) i e k ||| (if sj_agb (sj_ia S (b 1)) i e k then 1 <<< (nI k &&& 31) else 0) := rfl
          have ih' := ih hlt
          rw [ea, eb] at ih'
          rw [sj_n1]
          exact ih'
  refine sj_iconstv C (0) 1 rfl dX7_agreeing_0 rfl ?_
  refine sj_istore_n_3 C 2 rfl dX7_agreeing_1 rfl rfl ?_
  refine sj_iconstv C (0) 3 rfl dX7_agreeing_2 rfl ?_
  refine sj_istore_4 C 5 rfl dX7_agreeing_3 rfl rfl ?_
  exact cut_5
set_option maxRecDepth 100000 in
set_option maxHeartbeats 4000000 in
theorem ct_X7_ones (l : Launch) (S : sj_St) (x : Int32) : sj_Ctr l mX7_ones [.int x] S (sj_eq (some (.int (sj_ones x))) S) := by
  refine sj_start ([some (.int x), none, none]) (by decide +kernel) rfl rfl (fun X hX C hR => ?_)
  subst hX
  have cut_4 : sj_G X S 0 0 [some (.int x), some (.int (sj_sum (fun k => (x >>> (nI k &&& 31)) &&& 1) 0)), some (.int (nI 0))] 4 [] := by
    refine sj_down (fun k => sj_G X S 0 0 [some (.int x), some (.int (sj_sum (fun k => (x >>> (nI k &&& 31)) &&& 1) k)), some (.int (nI k))] 4 []) 8 (fun k hk ih => ?_)
    refine sj_iload_n C 5 rfl dX7_ones_4 rfl rfl ?_
    refine sj_bipush C (8) 7 rfl dX7_ones_5 (by decide) ?_
    refine sj_icmp_ge C 24 10 rfl rfl dX7_ones_7 (fun c_7 => ?_) (fun c_7 => ?_)
    · refine sj_iload_n C 25 rfl dX7_ones_24 rfl rfl ?_
      refine sj_iret C hR rfl rfl dX7_ones_25 ?_
      refine ⟨congrArg (fun z => some (Value.int z)) ?_, rfl⟩
      have hke : k = 8 := by
        have h9 : ¬ k < 8 := fun h8 => nI_ge (b := 8) h8 (by omega) c_7
        omega
      subst hke
      rfl
    · have hlt : k < 8 := Nat.not_le.mp fun h9 => c_7 (nI_le (a := 8) h9 (by omega))
      refine sj_iload_n C 11 rfl dX7_ones_10 rfl rfl ?_
      refine sj_iload_n C 12 rfl dX7_ones_11 rfl rfl ?_
      refine sj_iload_n C 13 rfl dX7_ones_12 rfl rfl ?_
      refine sj_ishr C 14 rfl dX7_ones_13 ?_
      refine sj_iconstv C (1) 15 rfl dX7_ones_14 rfl ?_
      refine sj_iand C 16 rfl dX7_ones_15 ?_
      refine sj_iadd C 17 rfl dX7_ones_16 ?_
      refine sj_istore_n_1 C 18 rfl dX7_ones_17 rfl rfl ?_
      refine sj_iinc_2 C 21 rfl dX7_ones_18 rfl rfl ?_
      refine sj_goto C 4 rfl dX7_ones_21 ?_
      rw [sj_n1]
      exact ih hlt
  refine sj_iconstv C (0) 1 rfl dX7_ones_0 rfl ?_
  refine sj_istore_n_1 C 2 rfl dX7_ones_1 rfl rfl ?_
  refine sj_iconstv C (0) 3 rfl dX7_ones_2 rfl ?_
  refine sj_istore_n_2 C 4 rfl dX7_ones_3 rfl rfl ?_
  exact cut_4
set_option maxRecDepth 100000 in
set_option maxHeartbeats 4000000 in
theorem ct_X7_likeness (l : Launch) {S : sj_St} {h : Nat} {b : Nat → Nat} {m : Nat → Int32} (hm : sj_mm S h b m) (i e : Nat) (hv : sj_shv m i) (hw : sj_shv m e) : sj_Ctr l mX7_likeness [.ref h, .int (nI i), .int (nI e)] S (sj_eq (some (.int (sj_lik m i e))) S) := by
  refine sj_start ([some (.ref h), some (.int (nI i)), some (.int (nI e))]) (by decide +kernel) rfl rfl (fun X hX C hR => ?_)
  subst hX
  have hm0 := hm
  obtain ⟨hm', em⟩ := hm0
  subst em
  obtain ⟨kd_h, ⟨rf_h_1, kd_a1, il_a1⟩, ⟨rf_h_2, kd_a2, il_a2⟩, ⟨rf_h_3, kd_a3, il_a3⟩, ⟨rf_h_5, kd_a5, il_a5⟩, ⟨rf_h_7, kd_a7, il_a7⟩, ⟨rf_h_13, kd_a13, il_a13⟩, ⟨rf_h_15, kd_a15, il_a15⟩, hinj⟩ := hm'
  refine sj_aload_n C 1 rfl dX7_likeness_0 rfl rfl ?_
  refine sj_iload_n C 2 rfl dX7_likeness_1 rfl rfl ?_
  refine sj_iload_n C 3 rfl dX7_likeness_2 rfl rfl ?_
  refine sj_callVd C 6 rfl dX7_likeness_3 cv_X7_92 rfl (ct_X7_agreeing _ hm i e hv hw) rfl rfl rfl ⟨_, _, kd_h, rfl, rfl, by decide⟩ ⟨rfl, rfl⟩ ?_
  refine sj_callSd C 9 rfl dX7_likeness_6 cv_X7_95 rfl (ct_X7_ones _ _ _) rfl rfl rfl ⟨rfl, rfl⟩ ?_
  refine sj_iret C hR rfl rfl dX7_likeness_9 ?_
  exact ⟨rfl, rfl⟩
set_option maxRecDepth 100000 in
set_option maxHeartbeats 4000000 in
theorem ct_X7_trembles (l : Launch) {S : sj_St} {h : Nat} {b : Nat → Nat} {m : Nat → Int32} (hm : sj_mm S h b m) (i : Nat) (hv : sj_shv m i) : sj_Ctr l mX7_trembles [.ref h, .int (nI i)] S (sj_eq (some (.int (sj_bi (sj_trm m i)))) S) := by
  refine sj_start ([some (.ref h), some (.int (nI i))]) (by decide +kernel) rfl rfl (fun X hX C hR => ?_)
  subst hX
  have hm0 := hm
  obtain ⟨hm', em⟩ := hm0
  subst em
  obtain ⟨kd_h, ⟨rf_h_1, kd_a1, il_a1⟩, ⟨rf_h_2, kd_a2, il_a2⟩, ⟨rf_h_3, kd_a3, il_a3⟩, ⟨rf_h_5, kd_a5, il_a5⟩, ⟨rf_h_7, kd_a7, il_a7⟩, ⟨rf_h_13, kd_a13, il_a13⟩, ⟨rf_h_15, kd_a15, il_a15⟩, hinj⟩ := hm'
  obtain ⟨hi, hn, hn1, hn8, hh⟩ := id hv
  refine sj_aload_n C 1 rfl dX7_trembles_0 rfl rfl ?_
  refine sj_iload_n C 2 rfl dX7_trembles_1 rfl rfl ?_
  refine sj_iconstv C (4) 3 rfl dX7_trembles_2 rfl ?_
  refine sj_callVd C 6 rfl dX7_trembles_3 cv_X7_61 rfl (ct_X7_sumOf _ hm i 4 hi (by omega) hn hn8) rfl rfl rfl ⟨_, _, kd_h, rfl, rfl, by decide⟩ ⟨rfl, rfl⟩ ?_
  refine sj_aload_n C 7 rfl dX7_trembles_6 rfl rfl ?_
  refine sj_iload_n C 8 rfl dX7_trembles_7 rfl rfl ?_
  refine sj_iconstv C (1) 9 rfl dX7_trembles_8 rfl ?_
  refine sj_callVd C 12 rfl dX7_trembles_9 cv_X7_39 rfl (ct_X7_of _ hm i 1 hi (by omega)) rfl rfl rfl ⟨_, _, kd_h, rfl, rfl, by decide⟩ ⟨rfl, rfl⟩ ?_
  refine sj_aload_n C 13 rfl dX7_trembles_12 rfl rfl ?_
  refine sj_getr C 16 rfl fd_X7_7 dX7_trembles_13 kd_h rf_h_1 ?_
  refine sj_bipush C (7) 18 rfl dX7_trembles_16 (by decide) ?_
  refine sj_iald C 19 rfl dX7_trembles_18 kd_a1 (by show vp_in (nI 7) (sj_il S (b 1)); rw [il_a1]; exact vp_in_nI (by omega) (by omega)) ?_
  rw [show Int32.toNatClampNeg (7) = 7 from rfl]
  refine sj_imul C 20 rfl dX7_trembles_19 ?_
  refine sj_icmp_le C 27 23 rfl rfl dX7_trembles_20 (fun c_20 => ?_) (fun c_20 => ?_)
  · refine sj_iconstv C (0) 28 rfl dX7_trembles_27 rfl ?_
    refine sj_zret C hR rfl rfl rfl dX7_trembles_28 ?_
    refine ⟨congrArg (fun z => some (Value.int z)) ?_, rfl⟩
    unfold sj_trm
    rw [hn] at c_20
    rw [decide_eq_false (sj_nlt.mpr c_20)]
    rfl
  · refine sj_iconstv C (1) 24 rfl dX7_trembles_23 rfl ?_
    refine sj_goto C 28 rfl dX7_trembles_24 ?_
    refine sj_zret C hR rfl rfl rfl dX7_trembles_28 ?_
    refine ⟨congrArg (fun z => some (Value.int z)) ?_, rfl⟩
    unfold sj_trm
    rw [hn] at c_20
    rw [decide_eq_true (sj_nle.mp c_20)]
    rfl
end
