section
-- ===== PART A: goes FIRST, ahead of the names: the tables' words, and 'selects' of the private methods out of them =====
/-- a private method of a class that the tables say can be made, by its rows of tables_1 -/
def lw_okq (q : MethodName × Nat) : Prop := (q.1.cls ≠ "java/lang/invoke/MethodHandle" ∧ q.1.cls ≠ "java/lang/invoke/VarHandle") ∧ Cond.instantiable q.1.cls q.2 ∈ tables_1 ∧ Cond.privateMethod q.1 ∈ tables_1 ∧ Cond.instanceMethod q.1 ∈ tables_1
theorem lw_p0 : lw_okq (⟨"SlantOaths$Oaths", "joinHands", "()V"⟩, 6) := ⟨⟨by decide +kernel, by decide +kernel⟩, List.mem_of_getElem? (i := 116) (by decide +kernel), List.mem_of_getElem? (i := 152) (by decide +kernel), List.mem_of_getElem? (i := 153) (by decide +kernel)⟩
theorem lw_p1 : lw_okq (⟨"SlantOaths$Oaths", "joinTwo", "(II)V"⟩, 6) := ⟨⟨by decide +kernel, by decide +kernel⟩, List.mem_of_getElem? (i := 116) (by decide +kernel), List.mem_of_getElem? (i := 161) (by decide +kernel), List.mem_of_getElem? (i := 162) (by decide +kernel)⟩
theorem lw_p2 : lw_okq (⟨"SlantOaths$Text", "begin", "()V"⟩, 10) := ⟨⟨by decide +kernel, by decide +kernel⟩, List.mem_of_getElem? (i := 27) (by decide +kernel), List.mem_of_getElem? (i := 250) (by decide +kernel), List.mem_of_getElem? (i := 251) (by decide +kernel)⟩
theorem lw_p3 : lw_okq (⟨"SlantOaths$Text", "readPart", "()V"⟩, 10) := ⟨⟨by decide +kernel, by decide +kernel⟩, List.mem_of_getElem? (i := 27) (by decide +kernel), List.mem_of_getElem? (i := 254) (by decide +kernel), List.mem_of_getElem? (i := 255) (by decide +kernel)⟩
theorem lw_p4 : lw_okq (⟨"SlantOaths$Text", "codeHere", "()I"⟩, 10) := ⟨⟨by decide +kernel, by decide +kernel⟩, List.mem_of_getElem? (i := 27) (by decide +kernel), List.mem_of_getElem? (i := 258) (by decide +kernel), List.mem_of_getElem? (i := 259) (by decide +kernel)⟩
theorem lw_p5 : lw_okq (⟨"SlantOaths$Text", "skip", "(I)Z"⟩, 10) := ⟨⟨by decide +kernel, by decide +kernel⟩, List.mem_of_getElem? (i := 27) (by decide +kernel), List.mem_of_getElem? (i := 263) (by decide +kernel), List.mem_of_getElem? (i := 264) (by decide +kernel)⟩
theorem lw_p6 : lw_okq (⟨"SlantOaths$Text", "readNumber", "(II)I"⟩, 10) := ⟨⟨by decide +kernel, by decide +kernel⟩, List.mem_of_getElem? (i := 27) (by decide +kernel), List.mem_of_getElem? (i := 267) (by decide +kernel), List.mem_of_getElem? (i := 268) (by decide +kernel)⟩
theorem lw_p7 : lw_okq (⟨"SlantOaths$Text", "digitHere", "()I"⟩, 10) := ⟨⟨by decide +kernel, by decide +kernel⟩, List.mem_of_getElem? (i := 27) (by decide +kernel), List.mem_of_getElem? (i := 271) (by decide +kernel), List.mem_of_getElem? (i := 272) (by decide +kernel)⟩
theorem lw_p8 : lw_okq (⟨"SlantOaths$Text", "need", "(I)V"⟩, 10) := ⟨⟨by decide +kernel, by decide +kernel⟩, List.mem_of_getElem? (i := 27) (by decide +kernel), List.mem_of_getElem? (i := 275) (by decide +kernel), List.mem_of_getElem? (i := 276) (by decide +kernel)⟩
theorem lw_p9 : lw_okq (⟨"SlantOaths$Text", "isComplete", "()Z"⟩, 10) := ⟨⟨by decide +kernel, by decide +kernel⟩, List.mem_of_getElem? (i := 27) (by decide +kernel), List.mem_of_getElem? (i := 280) (by decide +kernel), List.mem_of_getElem? (i := 281) (by decide +kernel)⟩
theorem lw_p10 : lw_okq (⟨"SlantOaths$Text", "readStroke", "()V"⟩, 10) := ⟨⟨by decide +kernel, by decide +kernel⟩, List.mem_of_getElem? (i := 27) (by decide +kernel), List.mem_of_getElem? (i := 288) (by decide +kernel), List.mem_of_getElem? (i := 289) (by decide +kernel)⟩
theorem lw_p11 : lw_okq (⟨"SlantOaths$Table", "areOfOneHand", "(II)Z"⟩, 8) := ⟨⟨by decide +kernel, by decide +kernel⟩, List.mem_of_getElem? (i := 83) (by decide +kernel), List.mem_of_getElem? (i := 314) (by decide +kernel), List.mem_of_getElem? (i := 315) (by decide +kernel)⟩
theorem lw_p12 : lw_okq (⟨"SlantOaths$Table", "agreeing", "(III)I"⟩, 8) := ⟨⟨by decide +kernel, by decide +kernel⟩, List.mem_of_getElem? (i := 83) (by decide +kernel), List.mem_of_getElem? (i := 326) (by decide +kernel), List.mem_of_getElem? (i := 327) (by decide +kernel)⟩
theorem lw_p13 : lw_okq (⟨"SlantOaths$Table", "fadedMarks", "(I)I"⟩, 8) := ⟨⟨by decide +kernel, by decide +kernel⟩, List.mem_of_getElem? (i := 83) (by decide +kernel), List.mem_of_getElem? (i := 345) (by decide +kernel), List.mem_of_getElem? (i := 346) (by decide +kernel)⟩
theorem lw_p14 : lw_okq (⟨"SlantOaths", "toldCount", "(I)I"⟩, 5) := ⟨⟨by decide +kernel, by decide +kernel⟩, List.mem_of_getElem? (i := 19) (by decide +kernel), List.mem_of_getElem? (i := 360) (by decide +kernel), List.mem_of_getElem? (i := 361) (by decide +kernel)⟩
theorem lw_p15 : lw_okq (⟨"SlantOaths$Table", "mostOfAHand", "()I"⟩, 8) := ⟨⟨by decide +kernel, by decide +kernel⟩, List.mem_of_getElem? (i := 83) (by decide +kernel), List.mem_of_getElem? (i := 377) (by decide +kernel), List.mem_of_getElem? (i := 378) (by decide +kernel)⟩
def lw_privs_1 : List (MethodName × Nat) := [(⟨"SlantOaths$Oaths", "joinHands", "()V"⟩, 6), (⟨"SlantOaths$Oaths", "joinTwo", "(II)V"⟩, 6), (⟨"SlantOaths$Text", "begin", "()V"⟩, 10), (⟨"SlantOaths$Text", "readPart", "()V"⟩, 10), (⟨"SlantOaths$Text", "codeHere", "()I"⟩, 10), (⟨"SlantOaths$Text", "skip", "(I)Z"⟩, 10), (⟨"SlantOaths$Text", "readNumber", "(II)I"⟩, 10), (⟨"SlantOaths$Text", "digitHere", "()I"⟩, 10), (⟨"SlantOaths$Text", "need", "(I)V"⟩, 10), (⟨"SlantOaths$Text", "isComplete", "()Z"⟩, 10), (⟨"SlantOaths$Text", "readStroke", "()V"⟩, 10), (⟨"SlantOaths$Table", "areOfOneHand", "(II)Z"⟩, 8), (⟨"SlantOaths$Table", "agreeing", "(III)I"⟩, 8), (⟨"SlantOaths$Table", "fadedMarks", "(I)I"⟩, 8), (⟨"SlantOaths", "toldCount", "(I)I"⟩, 5), (⟨"SlantOaths$Table", "mostOfAHand", "()I"⟩, 8)]
theorem lw_r1 : ∀ q ∈ lw_privs_1, lw_okq q := List.forall_mem_cons.mpr ⟨lw_p0, List.forall_mem_cons.mpr ⟨lw_p1, List.forall_mem_cons.mpr ⟨lw_p2, List.forall_mem_cons.mpr ⟨lw_p3, List.forall_mem_cons.mpr ⟨lw_p4, List.forall_mem_cons.mpr ⟨lw_p5, List.forall_mem_cons.mpr ⟨lw_p6, List.forall_mem_cons.mpr ⟨lw_p7, List.forall_mem_cons.mpr ⟨lw_p8, List.forall_mem_cons.mpr ⟨lw_p9, List.forall_mem_cons.mpr ⟨lw_p10, List.forall_mem_cons.mpr ⟨lw_p11, List.forall_mem_cons.mpr ⟨lw_p12, List.forall_mem_cons.mpr ⟨lw_p13, List.forall_mem_cons.mpr ⟨lw_p14, List.forall_mem_cons.mpr ⟨lw_p15, fun _ h => absurd h List.not_mem_nil⟩⟩⟩⟩⟩⟩⟩⟩⟩⟩⟩⟩⟩⟩⟩⟩
theorem lw_p16 : lw_okq (⟨"SlantOaths$Table", "tremblingSheets", "()I"⟩, 8) := ⟨⟨by decide +kernel, by decide +kernel⟩, List.mem_of_getElem? (i := 83) (by decide +kernel), List.mem_of_getElem? (i := 381) (by decide +kernel), List.mem_of_getElem? (i := 382) (by decide +kernel)⟩
theorem lw_p17 : lw_okq (⟨"SlantOaths$Table", "trembles", "(I)Z"⟩, 8) := ⟨⟨by decide +kernel, by decide +kernel⟩, List.mem_of_getElem? (i := 83) (by decide +kernel), List.mem_of_getElem? (i := 385) (by decide +kernel), List.mem_of_getElem? (i := 386) (by decide +kernel)⟩
theorem lw_p18 : lw_okq (⟨"SlantOaths$Sheet", "numberOf", "(II)I"⟩, 3) := ⟨⟨by decide +kernel, by decide +kernel⟩, List.mem_of_getElem? (i := 89) (by decide +kernel), List.mem_of_getElem? (i := 393) (by decide +kernel), List.mem_of_getElem? (i := 394) (by decide +kernel)⟩
theorem lw_p19 : lw_okq (⟨"SlantOaths$Table", "likePairs", "()I"⟩, 8) := ⟨⟨by decide +kernel, by decide +kernel⟩, List.mem_of_getElem? (i := 83) (by decide +kernel), List.mem_of_getElem? (i := 398) (by decide +kernel), List.mem_of_getElem? (i := 399) (by decide +kernel)⟩
theorem lw_p20 : lw_okq (⟨"SlantOaths", "mixSheet", "(JI)J"⟩, 5) := ⟨⟨by decide +kernel, by decide +kernel⟩, List.mem_of_getElem? (i := 19) (by decide +kernel), List.mem_of_getElem? (i := 406) (by decide +kernel), List.mem_of_getElem? (i := 407) (by decide +kernel)⟩
theorem lw_p21 : lw_okq (⟨"SlantOaths$Oaths", "isOf", "(II)Z"⟩, 6) := ⟨⟨by decide +kernel, by decide +kernel⟩, List.mem_of_getElem? (i := 116) (by decide +kernel), List.mem_of_getElem? (i := 418) (by decide +kernel), List.mem_of_getElem? (i := 419) (by decide +kernel)⟩
theorem lw_p22 : lw_okq (⟨"SlantOaths", "mixPair", "(JII)J"⟩, 5) := ⟨⟨by decide +kernel, by decide +kernel⟩, List.mem_of_getElem? (i := 19) (by decide +kernel), List.mem_of_getElem? (i := 440) (by decide +kernel), List.mem_of_getElem? (i := 441) (by decide +kernel)⟩
theorem lw_p23 : lw_okq (⟨"SlantOaths$Oaths", "isInHands", "(III)Z"⟩, 6) := ⟨⟨by decide +kernel, by decide +kernel⟩, List.mem_of_getElem? (i := 116) (by decide +kernel), List.mem_of_getElem? (i := 469) (by decide +kernel), List.mem_of_getElem? (i := 470) (by decide +kernel)⟩
theorem lw_p24 : lw_okq (⟨"SlantOaths$Oaths", "holdsTogether", "(I)Z"⟩, 6) := ⟨⟨by decide +kernel, by decide +kernel⟩, List.mem_of_getElem? (i := 116) (by decide +kernel), List.mem_of_getElem? (i := 477) (by decide +kernel), List.mem_of_getElem? (i := 478) (by decide +kernel)⟩
theorem lw_p25 : lw_okq (⟨"java/lang/Throwable", "fillInStackTrace", "(I)Ljava/lang/Throwable;"⟩, 6) := ⟨⟨by decide +kernel, by decide +kernel⟩, List.mem_of_getElem? (i := 540) (by decide +kernel), List.mem_of_getElem? (i := 538) (by decide +kernel), List.mem_of_getElem? (i := 539) (by decide +kernel)⟩
theorem lw_p26 : lw_okq (⟨"SlantOaths$History", "newestSlot", "()LSlantOaths$Table;"⟩, 3) := ⟨⟨by decide +kernel, by decide +kernel⟩, List.mem_of_getElem? (i := 198) (by decide +kernel), List.mem_of_getElem? (i := 590) (by decide +kernel), List.mem_of_getElem? (i := 591) (by decide +kernel)⟩
theorem lw_p27 : lw_okq (⟨"SlantOaths$Sheet", "slantRange", "()I"⟩, 3) := ⟨⟨by decide +kernel, by decide +kernel⟩, List.mem_of_getElem? (i := 89) (by decide +kernel), List.mem_of_getElem? (i := 609) (by decide +kernel), List.mem_of_getElem? (i := 610) (by decide +kernel)⟩
theorem lw_p28 : lw_okq (⟨"SlantOaths$Sheet", "loopHeights", "()I"⟩, 3) := ⟨⟨by decide +kernel, by decide +kernel⟩, List.mem_of_getElem? (i := 89) (by decide +kernel), List.mem_of_getElem? (i := 615) (by decide +kernel), List.mem_of_getElem? (i := 616) (by decide +kernel)⟩
theorem lw_p29 : lw_okq (⟨"SlantOaths$Sheet", "pressureSteps", "()I"⟩, 3) := ⟨⟨by decide +kernel, by decide +kernel⟩, List.mem_of_getElem? (i := 89) (by decide +kernel), List.mem_of_getElem? (i := 619) (by decide +kernel), List.mem_of_getElem? (i := 620) (by decide +kernel)⟩
theorem lw_p30 : lw_okq (⟨"SlantOaths", "isThere", "(I)Z"⟩, 5) := ⟨⟨by decide +kernel, by decide +kernel⟩, List.mem_of_getElem? (i := 19) (by decide +kernel), List.mem_of_getElem? (i := 636) (by decide +kernel), List.mem_of_getElem? (i := 637) (by decide +kernel)⟩
theorem lw_p31 : lw_okq (⟨"SlantOaths$Oaths", "takeOut", "(I)V"⟩, 6) := ⟨⟨by decide +kernel, by decide +kernel⟩, List.mem_of_getElem? (i := 116) (by decide +kernel), List.mem_of_getElem? (i := 668) (by decide +kernel), List.mem_of_getElem? (i := 669) (by decide +kernel)⟩
def lw_privs_2 : List (MethodName × Nat) := [(⟨"SlantOaths$Table", "tremblingSheets", "()I"⟩, 8), (⟨"SlantOaths$Table", "trembles", "(I)Z"⟩, 8), (⟨"SlantOaths$Sheet", "numberOf", "(II)I"⟩, 3), (⟨"SlantOaths$Table", "likePairs", "()I"⟩, 8), (⟨"SlantOaths", "mixSheet", "(JI)J"⟩, 5), (⟨"SlantOaths$Oaths", "isOf", "(II)Z"⟩, 6), (⟨"SlantOaths", "mixPair", "(JII)J"⟩, 5), (⟨"SlantOaths$Oaths", "isInHands", "(III)Z"⟩, 6), (⟨"SlantOaths$Oaths", "holdsTogether", "(I)Z"⟩, 6), (⟨"java/lang/Throwable", "fillInStackTrace", "(I)Ljava/lang/Throwable;"⟩, 6), (⟨"SlantOaths$History", "newestSlot", "()LSlantOaths$Table;"⟩, 3), (⟨"SlantOaths$Sheet", "slantRange", "()I"⟩, 3), (⟨"SlantOaths$Sheet", "loopHeights", "()I"⟩, 3), (⟨"SlantOaths$Sheet", "pressureSteps", "()I"⟩, 3), (⟨"SlantOaths", "isThere", "(I)Z"⟩, 5), (⟨"SlantOaths$Oaths", "takeOut", "(I)V"⟩, 6)]
theorem lw_r2 : ∀ q ∈ lw_privs_2, lw_okq q := List.forall_mem_cons.mpr ⟨lw_p16, List.forall_mem_cons.mpr ⟨lw_p17, List.forall_mem_cons.mpr ⟨lw_p18, List.forall_mem_cons.mpr ⟨lw_p19, List.forall_mem_cons.mpr ⟨lw_p20, List.forall_mem_cons.mpr ⟨lw_p21, List.forall_mem_cons.mpr ⟨lw_p22, List.forall_mem_cons.mpr ⟨lw_p23, List.forall_mem_cons.mpr ⟨lw_p24, List.forall_mem_cons.mpr ⟨lw_p25, List.forall_mem_cons.mpr ⟨lw_p26, List.forall_mem_cons.mpr ⟨lw_p27, List.forall_mem_cons.mpr ⟨lw_p28, List.forall_mem_cons.mpr ⟨lw_p29, List.forall_mem_cons.mpr ⟨lw_p30, List.forall_mem_cons.mpr ⟨lw_p31, fun _ h => absurd h List.not_mem_nil⟩⟩⟩⟩⟩⟩⟩⟩⟩⟩⟩⟩⟩⟩⟩⟩
theorem lw_p32 : lw_okq (⟨"SlantOaths", "areThere", "(II)Z"⟩, 5) := ⟨⟨by decide +kernel, by decide +kernel⟩, List.mem_of_getElem? (i := 19) (by decide +kernel), List.mem_of_getElem? (i := 708) (by decide +kernel), List.mem_of_getElem? (i := 709) (by decide +kernel)⟩
theorem lw_p33 : lw_okq (⟨"SlantOaths", "doPart", "(I)Z"⟩, 5) := ⟨⟨by decide +kernel, by decide +kernel⟩, List.mem_of_getElem? (i := 19) (by decide +kernel), List.mem_of_getElem? (i := 755) (by decide +kernel), List.mem_of_getElem? (i := 756) (by decide +kernel)⟩
theorem lw_p34 : lw_okq (⟨"SlantOaths", "swearPart", "(IIZ)I"⟩, 5) := ⟨⟨by decide +kernel, by decide +kernel⟩, List.mem_of_getElem? (i := 19) (by decide +kernel), List.mem_of_getElem? (i := 759) (by decide +kernel), List.mem_of_getElem? (i := 760) (by decide +kernel)⟩
theorem lw_p35 : lw_okq (⟨"SlantOathsModel", "fails", "(I)I"⟩, 17) := ⟨⟨by decide +kernel, by decide +kernel⟩, List.mem_of_getElem? (i := 874) (by decide +kernel), List.mem_of_getElem? (i := 940) (by decide +kernel), List.mem_of_getElem? (i := 941) (by decide +kernel)⟩
theorem lw_p36 : lw_okq (⟨"SlantOathsModel", "save", "()V"⟩, 17) := ⟨⟨by decide +kernel, by decide +kernel⟩, List.mem_of_getElem? (i := 874) (by decide +kernel), List.mem_of_getElem? (i := 952) (by decide +kernel), List.mem_of_getElem? (i := 953) (by decide +kernel)⟩
theorem lw_p37 : lw_okq (⟨"SlantOathsModel", "isSheetText", "()Z"⟩, 17) := ⟨⟨by decide +kernel, by decide +kernel⟩, List.mem_of_getElem? (i := 874) (by decide +kernel), List.mem_of_getElem? (i := 960) (by decide +kernel), List.mem_of_getElem? (i := 961) (by decide +kernel)⟩
theorem lw_p38 : lw_okq (⟨"SlantOathsModel", "findSheetError", "()I"⟩, 17) := ⟨⟨by decide +kernel, by decide +kernel⟩, List.mem_of_getElem? (i := 874) (by decide +kernel), List.mem_of_getElem? (i := 964) (by decide +kernel), List.mem_of_getElem? (i := 965) (by decide +kernel)⟩
theorem lw_p39 : lw_okq (⟨"SlantOathsModel", "readsStroke", "()Z"⟩, 17) := ⟨⟨by decide +kernel, by decide +kernel⟩, List.mem_of_getElem? (i := 874) (by decide +kernel), List.mem_of_getElem? (i := 968) (by decide +kernel), List.mem_of_getElem? (i := 969) (by decide +kernel)⟩
theorem lw_p40 : lw_okq (⟨"SlantOathsModel", "takes", "(I)Z"⟩, 17) := ⟨⟨by decide +kernel, by decide +kernel⟩, List.mem_of_getElem? (i := 874) (by decide +kernel), List.mem_of_getElem? (i := 972) (by decide +kernel), List.mem_of_getElem? (i := 973) (by decide +kernel)⟩
theorem lw_p41 : lw_okq (⟨"SlantOathsModel", "next", "()I"⟩, 17) := ⟨⟨by decide +kernel, by decide +kernel⟩, List.mem_of_getElem? (i := 874) (by decide +kernel), List.mem_of_getElem? (i := 976) (by decide +kernel), List.mem_of_getElem? (i := 977) (by decide +kernel)⟩
theorem lw_p42 : lw_okq (⟨"SlantOathsModel", "readNumber", "(II)I"⟩, 17) := ⟨⟨by decide +kernel, by decide +kernel⟩, List.mem_of_getElem? (i := 874) (by decide +kernel), List.mem_of_getElem? (i := 980) (by decide +kernel), List.mem_of_getElem? (i := 981) (by decide +kernel)⟩
theorem lw_p43 : lw_okq (⟨"SlantOathsModel", "isSheet", "(I)Z"⟩, 17) := ⟨⟨by decide +kernel, by decide +kernel⟩, List.mem_of_getElem? (i := 874) (by decide +kernel), List.mem_of_getElem? (i := 991) (by decide +kernel), List.mem_of_getElem? (i := 992) (by decide +kernel)⟩
theorem lw_p44 : lw_okq (⟨"SlantOathsModel", "drops", "(I)I"⟩, 17) := ⟨⟨by decide +kernel, by decide +kernel⟩, List.mem_of_getElem? (i := 874) (by decide +kernel), List.mem_of_getElem? (i := 995) (by decide +kernel), List.mem_of_getElem? (i := 996) (by decide +kernel)⟩
theorem lw_p45 : lw_okq (⟨"SlantOathsModel", "ofOath", "(II)I"⟩, 17) := ⟨⟨by decide +kernel, by decide +kernel⟩, List.mem_of_getElem? (i := 874) (by decide +kernel), List.mem_of_getElem? (i := 999) (by decide +kernel), List.mem_of_getElem? (i := 1000) (by decide +kernel)⟩
theorem lw_p46 : lw_okq (⟨"SlantOathsModel", "dropOath", "(I)V"⟩, 17) := ⟨⟨by decide +kernel, by decide +kernel⟩, List.mem_of_getElem? (i := 874) (by decide +kernel), List.mem_of_getElem? (i := 1003) (by decide +kernel), List.mem_of_getElem? (i := 1004) (by decide +kernel)⟩
theorem lw_p47 : lw_okq (⟨"SlantOathsModel", "passes", "(I)I"⟩, 17) := ⟨⟨by decide +kernel, by decide +kernel⟩, List.mem_of_getElem? (i := 874) (by decide +kernel), List.mem_of_getElem? (i := 1011) (by decide +kernel), List.mem_of_getElem? (i := 1012) (by decide +kernel)⟩
def lw_privs_3 : List (MethodName × Nat) := [(⟨"SlantOaths", "areThere", "(II)Z"⟩, 5), (⟨"SlantOaths", "doPart", "(I)Z"⟩, 5), (⟨"SlantOaths", "swearPart", "(IIZ)I"⟩, 5), (⟨"SlantOathsModel", "fails", "(I)I"⟩, 17), (⟨"SlantOathsModel", "save", "()V"⟩, 17), (⟨"SlantOathsModel", "isSheetText", "()Z"⟩, 17), (⟨"SlantOathsModel", "findSheetError", "()I"⟩, 17), (⟨"SlantOathsModel", "readsStroke", "()Z"⟩, 17), (⟨"SlantOathsModel", "takes", "(I)Z"⟩, 17), (⟨"SlantOathsModel", "next", "()I"⟩, 17), (⟨"SlantOathsModel", "readNumber", "(II)I"⟩, 17), (⟨"SlantOathsModel", "isSheet", "(I)Z"⟩, 17), (⟨"SlantOathsModel", "drops", "(I)I"⟩, 17), (⟨"SlantOathsModel", "ofOath", "(II)I"⟩, 17), (⟨"SlantOathsModel", "dropOath", "(I)V"⟩, 17), (⟨"SlantOathsModel", "passes", "(I)I"⟩, 17)]
theorem lw_r3 : ∀ q ∈ lw_privs_3, lw_okq q := List.forall_mem_cons.mpr ⟨lw_p32, List.forall_mem_cons.mpr ⟨lw_p33, List.forall_mem_cons.mpr ⟨lw_p34, List.forall_mem_cons.mpr ⟨lw_p35, List.forall_mem_cons.mpr ⟨lw_p36, List.forall_mem_cons.mpr ⟨lw_p37, List.forall_mem_cons.mpr ⟨lw_p38, List.forall_mem_cons.mpr ⟨lw_p39, List.forall_mem_cons.mpr ⟨lw_p40, List.forall_mem_cons.mpr ⟨lw_p41, List.forall_mem_cons.mpr ⟨lw_p42, List.forall_mem_cons.mpr ⟨lw_p43, List.forall_mem_cons.mpr ⟨lw_p44, List.forall_mem_cons.mpr ⟨lw_p45, List.forall_mem_cons.mpr ⟨lw_p46, List.forall_mem_cons.mpr ⟨lw_p47, fun _ h => absurd h List.not_mem_nil⟩⟩⟩⟩⟩⟩⟩⟩⟩⟩⟩⟩⟩⟩⟩⟩
theorem lw_p48 : lw_okq (⟨"SlantOathsModel", "of", "(II)I"⟩, 17) := ⟨⟨by decide +kernel, by decide +kernel⟩, List.mem_of_getElem? (i := 874) (by decide +kernel), List.mem_of_getElem? (i := 1015) (by decide +kernel), List.mem_of_getElem? (i := 1016) (by decide +kernel)⟩
theorem lw_p49 : lw_okq (⟨"SlantOathsModel", "whyNotSworn", "(IIZ)I"⟩, 17) := ⟨⟨by decide +kernel, by decide +kernel⟩, List.mem_of_getElem? (i := 874) (by decide +kernel), List.mem_of_getElem? (i := 1030) (by decide +kernel), List.mem_of_getElem? (i := 1031) (by decide +kernel)⟩
theorem lw_p50 : lw_okq (⟨"SlantOathsModel", "findOath", "(II)I"⟩, 17) := ⟨⟨by decide +kernel, by decide +kernel⟩, List.mem_of_getElem? (i := 874) (by decide +kernel), List.mem_of_getElem? (i := 1034) (by decide +kernel), List.mem_of_getElem? (i := 1035) (by decide +kernel)⟩
theorem lw_p51 : lw_okq (⟨"SlantOathsModel", "areOfOne", "(II)Z"⟩, 17) := ⟨⟨by decide +kernel, by decide +kernel⟩, List.mem_of_getElem? (i := 874) (by decide +kernel), List.mem_of_getElem? (i := 1038) (by decide +kernel), List.mem_of_getElem? (i := 1039) (by decide +kernel)⟩
theorem lw_p52 : lw_okq (⟨"SlantOathsModel", "layHands", "(I)V"⟩, 17) := ⟨⟨by decide +kernel, by decide +kernel⟩, List.mem_of_getElem? (i := 874) (by decide +kernel), List.mem_of_getElem? (i := 1042) (by decide +kernel), List.mem_of_getElem? (i := 1043) (by decide +kernel)⟩
theorem lw_p53 : lw_okq (⟨"SlantOathsModel", "join", "(II)V"⟩, 17) := ⟨⟨by decide +kernel, by decide +kernel⟩, List.mem_of_getElem? (i := 874) (by decide +kernel), List.mem_of_getElem? (i := 1046) (by decide +kernel), List.mem_of_getElem? (i := 1047) (by decide +kernel)⟩
theorem lw_p54 : lw_okq (⟨"SlantOathsModel", "trembles", "(I)Z"⟩, 17) := ⟨⟨by decide +kernel, by decide +kernel⟩, List.mem_of_getElem? (i := 874) (by decide +kernel), List.mem_of_getElem? (i := 1050) (by decide +kernel), List.mem_of_getElem? (i := 1051) (by decide +kernel)⟩
theorem lw_p55 : lw_okq (⟨"SlantOathsModel", "sumOf", "(II)I"⟩, 17) := ⟨⟨by decide +kernel, by decide +kernel⟩, List.mem_of_getElem? (i := 874) (by decide +kernel), List.mem_of_getElem? (i := 1054) (by decide +kernel), List.mem_of_getElem? (i := 1055) (by decide +kernel)⟩
theorem lw_p56 : lw_okq (⟨"SlantOathsModel", "ofStroke", "(III)I"⟩, 17) := ⟨⟨by decide +kernel, by decide +kernel⟩, List.mem_of_getElem? (i := 874) (by decide +kernel), List.mem_of_getElem? (i := 1058) (by decide +kernel), List.mem_of_getElem? (i := 1059) (by decide +kernel)⟩
theorem lw_p57 : lw_okq (⟨"SlantOathsModel", "likeness", "(II)I"⟩, 17) := ⟨⟨by decide +kernel, by decide +kernel⟩, List.mem_of_getElem? (i := 874) (by decide +kernel), List.mem_of_getElem? (i := 1062) (by decide +kernel), List.mem_of_getElem? (i := 1063) (by decide +kernel)⟩
theorem lw_p58 : lw_okq (⟨"SlantOathsModel", "agreeing", "(II)I"⟩, 17) := ⟨⟨by decide +kernel, by decide +kernel⟩, List.mem_of_getElem? (i := 874) (by decide +kernel), List.mem_of_getElem? (i := 1066) (by decide +kernel), List.mem_of_getElem? (i := 1067) (by decide +kernel)⟩
theorem lw_p59 : lw_okq (⟨"SlantOathsModel", "isGone", "(III)Z"⟩, 17) := ⟨⟨by decide +kernel, by decide +kernel⟩, List.mem_of_getElem? (i := 874) (by decide +kernel), List.mem_of_getElem? (i := 1070) (by decide +kernel), List.mem_of_getElem? (i := 1071) (by decide +kernel)⟩
theorem lw_p60 : lw_okq (⟨"SlantOathsModel", "hasFaded", "(I)Z"⟩, 17) := ⟨⟨by decide +kernel, by decide +kernel⟩, List.mem_of_getElem? (i := 874) (by decide +kernel), List.mem_of_getElem? (i := 1074) (by decide +kernel), List.mem_of_getElem? (i := 1075) (by decide +kernel)⟩
theorem lw_p61 : lw_okq (⟨"SlantOathsModel", "differ", "(III)I"⟩, 17) := ⟨⟨by decide +kernel, by decide +kernel⟩, List.mem_of_getElem? (i := 874) (by decide +kernel), List.mem_of_getElem? (i := 1078) (by decide +kernel), List.mem_of_getElem? (i := 1079) (by decide +kernel)⟩
theorem lw_p62 : lw_okq (⟨"SlantOathsModel", "markOf", "(II)I"⟩, 17) := ⟨⟨by decide +kernel, by decide +kernel⟩, List.mem_of_getElem? (i := 874) (by decide +kernel), List.mem_of_getElem? (i := 1082) (by decide +kernel), List.mem_of_getElem? (i := 1083) (by decide +kernel)⟩
theorem lw_p63 : lw_okq (⟨"SlantOathsModel", "spread", "(I)I"⟩, 17) := ⟨⟨by decide +kernel, by decide +kernel⟩, List.mem_of_getElem? (i := 874) (by decide +kernel), List.mem_of_getElem? (i := 1089) (by decide +kernel), List.mem_of_getElem? (i := 1090) (by decide +kernel)⟩
def lw_privs_4 : List (MethodName × Nat) := [(⟨"SlantOathsModel", "of", "(II)I"⟩, 17), (⟨"SlantOathsModel", "whyNotSworn", "(IIZ)I"⟩, 17), (⟨"SlantOathsModel", "findOath", "(II)I"⟩, 17), (⟨"SlantOathsModel", "areOfOne", "(II)Z"⟩, 17), (⟨"SlantOathsModel", "layHands", "(I)V"⟩, 17), (⟨"SlantOathsModel", "join", "(II)V"⟩, 17), (⟨"SlantOathsModel", "trembles", "(I)Z"⟩, 17), (⟨"SlantOathsModel", "sumOf", "(II)I"⟩, 17), (⟨"SlantOathsModel", "ofStroke", "(III)I"⟩, 17), (⟨"SlantOathsModel", "likeness", "(II)I"⟩, 17), (⟨"SlantOathsModel", "agreeing", "(II)I"⟩, 17), (⟨"SlantOathsModel", "isGone", "(III)Z"⟩, 17), (⟨"SlantOathsModel", "hasFaded", "(I)Z"⟩, 17), (⟨"SlantOathsModel", "differ", "(III)I"⟩, 17), (⟨"SlantOathsModel", "markOf", "(II)I"⟩, 17), (⟨"SlantOathsModel", "spread", "(I)I"⟩, 17)]
theorem lw_r4 : ∀ q ∈ lw_privs_4, lw_okq q := List.forall_mem_cons.mpr ⟨lw_p48, List.forall_mem_cons.mpr ⟨lw_p49, List.forall_mem_cons.mpr ⟨lw_p50, List.forall_mem_cons.mpr ⟨lw_p51, List.forall_mem_cons.mpr ⟨lw_p52, List.forall_mem_cons.mpr ⟨lw_p53, List.forall_mem_cons.mpr ⟨lw_p54, List.forall_mem_cons.mpr ⟨lw_p55, List.forall_mem_cons.mpr ⟨lw_p56, List.forall_mem_cons.mpr ⟨lw_p57, List.forall_mem_cons.mpr ⟨lw_p58, List.forall_mem_cons.mpr ⟨lw_p59, List.forall_mem_cons.mpr ⟨lw_p60, List.forall_mem_cons.mpr ⟨lw_p61, List.forall_mem_cons.mpr ⟨lw_p62, List.forall_mem_cons.mpr ⟨lw_p63, fun _ h => absurd h List.not_mem_nil⟩⟩⟩⟩⟩⟩⟩⟩⟩⟩⟩⟩⟩⟩⟩⟩
theorem lw_p64 : lw_okq (⟨"SlantOathsModel", "loopHeight", "(I)I"⟩, 17) := ⟨⟨by decide +kernel, by decide +kernel⟩, List.mem_of_getElem? (i := 874) (by decide +kernel), List.mem_of_getElem? (i := 1093) (by decide +kernel), List.mem_of_getElem? (i := 1094) (by decide +kernel)⟩
theorem lw_p65 : lw_okq (⟨"SlantOathsModel", "unrest", "(I)I"⟩, 17) := ⟨⟨by decide +kernel, by decide +kernel⟩, List.mem_of_getElem? (i := 874) (by decide +kernel), List.mem_of_getElem? (i := 1097) (by decide +kernel), List.mem_of_getElem? (i := 1098) (by decide +kernel)⟩
theorem lw_p66 : lw_okq (⟨"SlantOathsModel", "breaks", "(II)Z"⟩, 17) := ⟨⟨by decide +kernel, by decide +kernel⟩, List.mem_of_getElem? (i := 874) (by decide +kernel), List.mem_of_getElem? (i := 1107) (by decide +kernel), List.mem_of_getElem? (i := 1108) (by decide +kernel)⟩
theorem lw_p67 : lw_okq (⟨"SlantOathsModel", "swears", "(IIZ)I"⟩, 17) := ⟨⟨by decide +kernel, by decide +kernel⟩, List.mem_of_getElem? (i := 874) (by decide +kernel), List.mem_of_getElem? (i := 1111) (by decide +kernel), List.mem_of_getElem? (i := 1112) (by decide +kernel)⟩
theorem lw_p68 : lw_okq (⟨"SlantOathsModel", "hands", "()I"⟩, 17) := ⟨⟨by decide +kernel, by decide +kernel⟩, List.mem_of_getElem? (i := 874) (by decide +kernel), List.mem_of_getElem? (i := 1115) (by decide +kernel), List.mem_of_getElem? (i := 1116) (by decide +kernel)⟩
theorem lw_p69 : lw_okq (⟨"SlantOathsModel", "findWorksError", "()I"⟩, 17) := ⟨⟨by decide +kernel, by decide +kernel⟩, List.mem_of_getElem? (i := 874) (by decide +kernel), List.mem_of_getElem? (i := 1135) (by decide +kernel), List.mem_of_getElem? (i := 1136) (by decide +kernel)⟩
theorem lw_p70 : lw_okq (⟨"SlantOathsModel", "readsPart", "()Z"⟩, 17) := ⟨⟨by decide +kernel, by decide +kernel⟩, List.mem_of_getElem? (i := 874) (by decide +kernel), List.mem_of_getElem? (i := 1139) (by decide +kernel), List.mem_of_getElem? (i := 1140) (by decide +kernel)⟩
theorem lw_p71 : lw_okq (⟨"SlantOathsModel", "whyNotPart", "()I"⟩, 17) := ⟨⟨by decide +kernel, by decide +kernel⟩, List.mem_of_getElem? (i := 874) (by decide +kernel), List.mem_of_getElem? (i := 1147) (by decide +kernel), List.mem_of_getElem? (i := 1148) (by decide +kernel)⟩
theorem lw_p72 : lw_okq (⟨"SlantOathsModel", "doPart", "()V"⟩, 17) := ⟨⟨by decide +kernel, by decide +kernel⟩, List.mem_of_getElem? (i := 874) (by decide +kernel), List.mem_of_getElem? (i := 1151) (by decide +kernel), List.mem_of_getElem? (i := 1152) (by decide +kernel)⟩
theorem lw_p73 : lw_okq (⟨"SlantOathsModel", "tellsSheet", "(II)I"⟩, 17) := ⟨⟨by decide +kernel, by decide +kernel⟩, List.mem_of_getElem? (i := 874) (by decide +kernel), List.mem_of_getElem? (i := 1163) (by decide +kernel), List.mem_of_getElem? (i := 1164) (by decide +kernel)⟩
theorem lw_p74 : lw_okq (⟨"SlantOathsModel", "handOf", "(I)I"⟩, 17) := ⟨⟨by decide +kernel, by decide +kernel⟩, List.mem_of_getElem? (i := 874) (by decide +kernel), List.mem_of_getElem? (i := 1167) (by decide +kernel), List.mem_of_getElem? (i := 1168) (by decide +kernel)⟩
theorem lw_p75 : lw_okq (⟨"SlantOathsModel", "oathsOf", "(I)I"⟩, 17) := ⟨⟨by decide +kernel, by decide +kernel⟩, List.mem_of_getElem? (i := 874) (by decide +kernel), List.mem_of_getElem? (i := 1171) (by decide +kernel), List.mem_of_getElem? (i := 1172) (by decide +kernel)⟩
theorem lw_p76 : lw_okq (⟨"SlantOathsModel", "tellsStroke", "(III)I"⟩, 17) := ⟨⟨by decide +kernel, by decide +kernel⟩, List.mem_of_getElem? (i := 874) (by decide +kernel), List.mem_of_getElem? (i := 1179) (by decide +kernel), List.mem_of_getElem? (i := 1180) (by decide +kernel)⟩
theorem lw_p77 : lw_okq (⟨"SlantOathsModel", "compares", "(III)I"⟩, 17) := ⟨⟨by decide +kernel, by decide +kernel⟩, List.mem_of_getElem? (i := 874) (by decide +kernel), List.mem_of_getElem? (i := 1191) (by decide +kernel), List.mem_of_getElem? (i := 1192) (by decide +kernel)⟩
theorem lw_p78 : lw_okq (⟨"SlantOathsModel", "tellsOathOf", "(II)I"⟩, 17) := ⟨⟨by decide +kernel, by decide +kernel⟩, List.mem_of_getElem? (i := 874) (by decide +kernel), List.mem_of_getElem? (i := 1195) (by decide +kernel), List.mem_of_getElem? (i := 1196) (by decide +kernel)⟩
theorem lw_p79 : lw_okq (⟨"SlantOathsModel", "tellsOath", "(II)I"⟩, 17) := ⟨⟨by decide +kernel, by decide +kernel⟩, List.mem_of_getElem? (i := 874) (by decide +kernel), List.mem_of_getElem? (i := 1203) (by decide +kernel), List.mem_of_getElem? (i := 1204) (by decide +kernel)⟩
def lw_privs_5 : List (MethodName × Nat) := [(⟨"SlantOathsModel", "loopHeight", "(I)I"⟩, 17), (⟨"SlantOathsModel", "unrest", "(I)I"⟩, 17), (⟨"SlantOathsModel", "breaks", "(II)Z"⟩, 17), (⟨"SlantOathsModel", "swears", "(IIZ)I"⟩, 17), (⟨"SlantOathsModel", "hands", "()I"⟩, 17), (⟨"SlantOathsModel", "findWorksError", "()I"⟩, 17), (⟨"SlantOathsModel", "readsPart", "()Z"⟩, 17), (⟨"SlantOathsModel", "whyNotPart", "()I"⟩, 17), (⟨"SlantOathsModel", "doPart", "()V"⟩, 17), (⟨"SlantOathsModel", "tellsSheet", "(II)I"⟩, 17), (⟨"SlantOathsModel", "handOf", "(I)I"⟩, 17), (⟨"SlantOathsModel", "oathsOf", "(I)I"⟩, 17), (⟨"SlantOathsModel", "tellsStroke", "(III)I"⟩, 17), (⟨"SlantOathsModel", "compares", "(III)I"⟩, 17), (⟨"SlantOathsModel", "tellsOathOf", "(II)I"⟩, 17), (⟨"SlantOathsModel", "tellsOath", "(II)I"⟩, 17)]
theorem lw_r5 : ∀ q ∈ lw_privs_5, lw_okq q := List.forall_mem_cons.mpr ⟨lw_p64, List.forall_mem_cons.mpr ⟨lw_p65, List.forall_mem_cons.mpr ⟨lw_p66, List.forall_mem_cons.mpr ⟨lw_p67, List.forall_mem_cons.mpr ⟨lw_p68, List.forall_mem_cons.mpr ⟨lw_p69, List.forall_mem_cons.mpr ⟨lw_p70, List.forall_mem_cons.mpr ⟨lw_p71, List.forall_mem_cons.mpr ⟨lw_p72, List.forall_mem_cons.mpr ⟨lw_p73, List.forall_mem_cons.mpr ⟨lw_p74, List.forall_mem_cons.mpr ⟨lw_p75, List.forall_mem_cons.mpr ⟨lw_p76, List.forall_mem_cons.mpr ⟨lw_p77, List.forall_mem_cons.mpr ⟨lw_p78, List.forall_mem_cons.mpr ⟨lw_p79, fun _ h => absurd h List.not_mem_nil⟩⟩⟩⟩⟩⟩⟩⟩⟩⟩⟩⟩⟩⟩⟩⟩
theorem lw_p80 : lw_okq (⟨"SlantOathsModel", "holds", "(I)Z"⟩, 17) := ⟨⟨by decide +kernel, by decide +kernel⟩, List.mem_of_getElem? (i := 874) (by decide +kernel), List.mem_of_getElem? (i := 1207) (by decide +kernel), List.mem_of_getElem? (i := 1208) (by decide +kernel)⟩
theorem lw_p81 : lw_okq (⟨"SlantOathsModel", "tellsCount", "(I)I"⟩, 17) := ⟨⟨by decide +kernel, by decide +kernel⟩, List.mem_of_getElem? (i := 874) (by decide +kernel), List.mem_of_getElem? (i := 1215) (by decide +kernel), List.mem_of_getElem? (i := 1216) (by decide +kernel)⟩
theorem lw_p82 : lw_okq (⟨"SlantOathsModel", "likeOaths", "()I"⟩, 17) := ⟨⟨by decide +kernel, by decide +kernel⟩, List.mem_of_getElem? (i := 874) (by decide +kernel), List.mem_of_getElem? (i := 1219) (by decide +kernel), List.mem_of_getElem? (i := 1220) (by decide +kernel)⟩
theorem lw_p83 : lw_okq (⟨"SlantOathsModel", "mostOfHand", "()I"⟩, 17) := ⟨⟨by decide +kernel, by decide +kernel⟩, List.mem_of_getElem? (i := 874) (by decide +kernel), List.mem_of_getElem? (i := 1223) (by decide +kernel), List.mem_of_getElem? (i := 1224) (by decide +kernel)⟩
theorem lw_p84 : lw_okq (⟨"SlantOathsModel", "trembling", "()I"⟩, 17) := ⟨⟨by decide +kernel, by decide +kernel⟩, List.mem_of_getElem? (i := 874) (by decide +kernel), List.mem_of_getElem? (i := 1227) (by decide +kernel), List.mem_of_getElem? (i := 1228) (by decide +kernel)⟩
theorem lw_p85 : lw_okq (⟨"SlantOathsModel", "likePairs", "()I"⟩, 17) := ⟨⟨by decide +kernel, by decide +kernel⟩, List.mem_of_getElem? (i := 874) (by decide +kernel), List.mem_of_getElem? (i := 1231) (by decide +kernel), List.mem_of_getElem? (i := 1232) (by decide +kernel)⟩
theorem lw_p86 : lw_okq (⟨"SlantOathsModel", "mostAlike", "(I)I"⟩, 17) := ⟨⟨by decide +kernel, by decide +kernel⟩, List.mem_of_getElem? (i := 874) (by decide +kernel), List.mem_of_getElem? (i := 1243) (by decide +kernel), List.mem_of_getElem? (i := 1244) (by decide +kernel)⟩
theorem lw_p87 : lw_okq (⟨"SlantOathsModel", "tolerance", "(III)I"⟩, 17) := ⟨⟨by decide +kernel, by decide +kernel⟩, List.mem_of_getElem? (i := 874) (by decide +kernel), List.mem_of_getElem? (i := 1251) (by decide +kernel), List.mem_of_getElem? (i := 1252) (by decide +kernel)⟩
theorem lw_p88 : lw_okq (⟨"SlantOathsModel", "wouldPass", "(III)I"⟩, 17) := ⟨⟨by decide +kernel, by decide +kernel⟩, List.mem_of_getElem? (i := 874) (by decide +kernel), List.mem_of_getElem? (i := 1259) (by decide +kernel), List.mem_of_getElem? (i := 1260) (by decide +kernel)⟩
theorem lw_p89 : lw_okq (⟨"SlantOathsModel", "putAside", "()V"⟩, 17) := ⟨⟨by decide +kernel, by decide +kernel⟩, List.mem_of_getElem? (i := 874) (by decide +kernel), List.mem_of_getElem? (i := 1263) (by decide +kernel), List.mem_of_getElem? (i := 1264) (by decide +kernel)⟩
theorem lw_p90 : lw_okq (⟨"SlantOathsModel", "takeBack", "()V"⟩, 17) := ⟨⟨by decide +kernel, by decide +kernel⟩, List.mem_of_getElem? (i := 874) (by decide +kernel), List.mem_of_getElem? (i := 1267) (by decide +kernel), List.mem_of_getElem? (i := 1268) (by decide +kernel)⟩
theorem lw_p91 : lw_okq (⟨"SlantOathsModel", "share", "()D"⟩, 17) := ⟨⟨by decide +kernel, by decide +kernel⟩, List.mem_of_getElem? (i := 874) (by decide +kernel), List.mem_of_getElem? (i := 1275) (by decide +kernel), List.mem_of_getElem? (i := 1276) (by decide +kernel)⟩
theorem lw_p92 : lw_okq (⟨"SlantOathsModel", "mix", "(J)V"⟩, 17) := ⟨⟨by decide +kernel, by decide +kernel⟩, List.mem_of_getElem? (i := 874) (by decide +kernel), List.mem_of_getElem? (i := 1284) (by decide +kernel), List.mem_of_getElem? (i := 1285) (by decide +kernel)⟩
theorem lw_p93 : lw_okq (⟨"SlantOathsModel", "mixSheet", "(I)V"⟩, 17) := ⟨⟨by decide +kernel, by decide +kernel⟩, List.mem_of_getElem? (i := 874) (by decide +kernel), List.mem_of_getElem? (i := 1289) (by decide +kernel), List.mem_of_getElem? (i := 1290) (by decide +kernel)⟩
def lw_privs_6 : List (MethodName × Nat) := [(⟨"SlantOathsModel", "holds", "(I)Z"⟩, 17), (⟨"SlantOathsModel", "tellsCount", "(I)I"⟩, 17), (⟨"SlantOathsModel", "likeOaths", "()I"⟩, 17), (⟨"SlantOathsModel", "mostOfHand", "()I"⟩, 17), (⟨"SlantOathsModel", "trembling", "()I"⟩, 17), (⟨"SlantOathsModel", "likePairs", "()I"⟩, 17), (⟨"SlantOathsModel", "mostAlike", "(I)I"⟩, 17), (⟨"SlantOathsModel", "tolerance", "(III)I"⟩, 17), (⟨"SlantOathsModel", "wouldPass", "(III)I"⟩, 17), (⟨"SlantOathsModel", "putAside", "()V"⟩, 17), (⟨"SlantOathsModel", "takeBack", "()V"⟩, 17), (⟨"SlantOathsModel", "share", "()D"⟩, 17), (⟨"SlantOathsModel", "mix", "(J)V"⟩, 17), (⟨"SlantOathsModel", "mixSheet", "(I)V"⟩, 17)]
theorem lw_r6 : ∀ q ∈ lw_privs_6, lw_okq q := List.forall_mem_cons.mpr ⟨lw_p80, List.forall_mem_cons.mpr ⟨lw_p81, List.forall_mem_cons.mpr ⟨lw_p82, List.forall_mem_cons.mpr ⟨lw_p83, List.forall_mem_cons.mpr ⟨lw_p84, List.forall_mem_cons.mpr ⟨lw_p85, List.forall_mem_cons.mpr ⟨lw_p86, List.forall_mem_cons.mpr ⟨lw_p87, List.forall_mem_cons.mpr ⟨lw_p88, List.forall_mem_cons.mpr ⟨lw_p89, List.forall_mem_cons.mpr ⟨lw_p90, List.forall_mem_cons.mpr ⟨lw_p91, List.forall_mem_cons.mpr ⟨lw_p92, List.forall_mem_cons.mpr ⟨lw_p93, fun _ h => absurd h List.not_mem_nil⟩⟩⟩⟩⟩⟩⟩⟩⟩⟩⟩⟩⟩⟩
def lw_privs : List (MethodName × Nat) := lw_privs_1 ++ (lw_privs_2 ++ (lw_privs_3 ++ (lw_privs_4 ++ (lw_privs_5 ++ (lw_privs_6)))))
def lw_tbl : List Cond := k2_sels lw_privs ++ tables_1
theorem lw_privs_ok : ∀ q ∈ lw_privs, lw_okq q := by
  show ∀ q ∈ lw_privs_1 ++ (lw_privs_2 ++ (lw_privs_3 ++ (lw_privs_4 ++ (lw_privs_5 ++ (lw_privs_6))))), lw_okq q
  exact List.forall_mem_append.mpr ⟨lw_r1, List.forall_mem_append.mpr ⟨lw_r2, List.forall_mem_append.mpr ⟨lw_r3, List.forall_mem_append.mpr ⟨lw_r4, List.forall_mem_append.mpr ⟨lw_r5, lw_r6⟩⟩⟩⟩⟩
/-- the streams that the claim lets the run draw from -/
abbrev lw_cs : List Choice := [Jvm.Choice.named "NaN.bits"]
theorem lw_bits : nanBits ∈ lw_cs := by first | decide | exact List.mem_cons_self | simp [lw_cs, nanBits]
-- ===== end of PART A; then your names; then what follows =====
end
section
/-! ===== BEGIN words of one list among another's, by their places ===== -/
theorem goodIn_r {big : List Cond} (ws : List Cond) (ps : List Nat) (hp : ws = ps.filterMap (fun i => big[i]?)) (h : ws.all goodWord = true) : GoodIn big ws := by
  intro w hw
  have h1 := List.all_eq_true.mp h w hw
  rw [hp] at hw
  obtain ⟨i, -, hi⟩ := List.mem_filterMap.mp hw
  have hm : w ∈ big := by first | exact List.mem_of_getElem? hi | exact List.getElem?_mem hi
  exact ⟨hm, good_of_word h1⟩
theorem goodIn_app {big a b : List Cond} (ha : GoodIn big a) (hb : GoodIn big b) : GoodIn big (a ++ b) := fun w h => (List.mem_append.mp h).elim (ha w) (hb w)
theorem goodIn_ca {big a b : List Cond} {c : Cond} (ha : GoodIn big (c :: a)) (hb : GoodIn big b) : GoodIn big (c :: (a ++ b)) := fun w h => (List.mem_cons.mp h).elim (fun e => ha w (List.mem_cons.mpr (Or.inl e))) (fun h => (List.mem_append.mp h).elim (fun h => ha w (List.mem_cons.mpr (Or.inr h))) (hb w))
theorem goodIn_sub {big ws : List Cond} (hm : ∀ w ∈ ws, w ∈ big) (h : ws.all goodWord = true) : GoodIn big ws := fun w hw => ⟨hm w hw, good_of_word (List.all_eq_true.mp h w hw)⟩
/-! ===== END ===== -/

/-! ===== BEGIN exceptions that leave a method, and their catching by the caller (launches without stack traces) ===== -/
section VXA
/-! The laws vx_back, vx_callV, vx_callS, vx_callSW, vx_throw0, vx_throwS follow proofs of the library, with one case more: JvmDerived/Free/Laws.lean (Back.of_free), Shelf42/LK1.lean (callV, callS), Shelf/KitTraced.lean (throwNew0V, throwNewS). -/
/-- where a method has thrown q: the class by its name, the cell, what was written, the world -/
def vx_T (XC : String → State → State → Prop) (st : State) (q : Addr) (t : State) (mc ms : Nat) (free : Addr → Prop) : Prop :=
  ∃ (E : String) (ce : Cell) (L : List Loc), XC E st t ∧ t.heap[q]? = some ce ∧ ce.vm = .none ∧ st.vm.findClass E = some ce.cls ∧ st.WarmedH t.vm ∧ st.sameButNew ({ t with vm := st.vm } : State) L mc ms ∧ ∀ z ∈ L, free z.base
def vx_Q (Qc : Array Value → State → Outcome → State → Prop) (XC : String → State → State → Prop) (mc ms : Nat) (free : Addr → Prop) : Array Value → State → Outcome → State → Prop := fun a st o t =>
  (Qc a st o t ∧ ∃ L, FrameEnd st o t L mc ms ∧ ∀ q ∈ L, free q.base) ∨ ∃ q, o = .threw q ∧ vx_T XC st q t mc ms free
/-- a callee that returns or throws -/
def vx_Met (l : Launch) (y : MethodName) (ws : List Cond) (rm : Room) (Pc : Array Value → State → Prop) (Qc : Array Value → State → Outcome → State → Prop) (XC : String → State → State → Prop) (mc ms : Nat) (free : Addr → Prop) : Prop :=
  MetFree l y (headSpec ws rm) Pc (fun _ _ _ _ _ => True) (vx_Q Qc XC mc ms free)
def vx_Post (XC : String → State → State → Prop) (mc ms : Nat) (free : Addr → Prop) : Pt → Array Value → Addr → Pt → Prop := fun A a q B =>
  ∃ (g : JFrame) (mk : MethodId) (t : State) (L : List Loc) (E : String) (ce : Cell), B.U.heap = t.heap ∧ B.U.vm = t.vm ∧ XC E (A.U.calling g mk a) t ∧ t.heap[q]? = some ce ∧ ce.vm = .none ∧ A.U.vm.findClass E = some ce.cls ∧ B.locs = A.locs ++ L ∧ (∀ z ∈ L, free z.base) ∧ B.cells = A.cells + mc ∧ B.slots = A.slots + ms
def vx_Back (l : Launch) (R : Room) (p : Program) (e : Env) (below : List Frame) (s : State) (sargs : Array Value) (y : MethodName) (len W9 : Nat)
    (Pre : Pt → Array Value → Prop) (Post : Pt → Array Value → Option Value → Pt → Prop) (PostX : Pt → Array Value → Addr → Pt → Prop) : Prop :=
  ∀ (m : MethodId) (meth : Method) (c : Code) (A : Pt) (g : JFrame) (ig : Instr) (mk : MethodId) (a : Array Value),
    Stand p l e R s m sargs below meth c A.U A.locs A.cells A.slots → g.method = m → g.locals.size = c.maxLocals → decode c.code g.pc = .ok (ig, len) →
    2 * g.monitorRoom + (g.stack.map fun v => v.category).sum ≤ W9 → A.U.methodNamed? y = some mk → Pre A a →
    (∃ (v : Option Value) (B : Pt), Stand p l e R s m sargs below meth c B.U B.locs B.cells B.slots ∧ Post A a v B ∧
      Steps p.tables e below (doInvoke e (A.U.setTop g) [] mk a).1 (B.U.setTop { g with pc := g.pc + len, stack := v.toList ++ g.stack })) ∨
    (∃ (q : Addr) (B : Pt), Stand p l e R s m sargs below meth c B.U B.locs B.cells B.slots ∧ PostX A a q B ∧
      Steps p.tables e below (doInvoke e (A.U.setTop g) [] mk a).1 ((B.U.setTop g).pushFrame (.throwing q)))
section Payer
variable {l : Launch} {R : Room} {p : Program} {e : Env} {below : List Frame} {s : State} {sargs : Array Value} {y : MethodName} {len W9 : Nat}
theorem vx_back {ws : List Cond} {rm : Room} {Pc : Array Value → State → Prop} {Qc : Array Value → State → Outcome → State → Prop} {XC : String → State → State → Prop} {mc ms : Nat} {free : Addr → Prop} {bytes : ByteArray} {maxL : Nat} {ret : Option FieldType}
    (hM : vx_Met l y ws rm Pc Qc XC mc ms free) (hblind : FrameBlind Pc) (hrc : rm.cells = mc) (hrs : rm.slots = ms)
    (hframes : rm.frames + 1 ≤ R.frames) (hlocals : W9 + (maxL + 11) + rm.locals ≤ R.locals)
    (hws : ∀ w ∈ ws, ∀ a' U, s.WarmedH U.vm → w.before a' U = true) (hcode : Cond.code y bytes maxL ret ∈ ws) (hinit : ∀ a' U, s.WarmedH U.vm → (Cond.initialized y.cls).before a' U = true) :
    vx_Back l R p e below s sargs y len W9 (PreOf R mc ms Pc) (PostOf Qc mc ms free) (vx_Post XC mc ms free) := by
  intro m meth c A g ig mk a X hg hsize hdg hW hn hp
  have h1 : (headSpec ws rm).pre.before a A.U = true := atoms_intro fun w hw => hws w hw _ _ X.warmed
  have h2 : (Cond.code y bytes maxL ret).before a A.U = true := hws _ hcode _ _ X.warmed
  have h3 : (Cond.initialized y.cls).before a A.U = true := hinit _ _ X.warmed
  have h4 : A.cells + (headSpec ws rm).room.cells ≤ R.cells := by rw [show (headSpec ws rm).room.cells = mc from hrc]; exact hp.1
  have h5 : A.slots + (headSpec ws rm).room.slots ≤ R.slots := by rw [show (headSpec ws rm).room.slots = ms from hrs]; exact hp.2.1
  have hPc : Pc a (A.U.calling g mk a) := hblind _ _ _ _ hp.2.2
  obtain ⟨U, Ls, c0, s0⟩ := A
  dsimp only [Pt.U, Pt.locs, Pt.cells, Pt.slots] at h1 h2 h3 h4 h5 X hn hPc ⊢
  obtain ⟨methY, cY, hmY, hcY, -, hlY, -, -, -, -⟩ := Cond.code_spec hn h2
  obtain ⟨kY, hkY, -⟩ := className_of_methodNamed hn
  have hinitY : kY.init = .initialized := Cond.initialized_spec (findClass_of_methodNamed hn) hkY h3
  have h : At U g.method c below := by rw [hg]; exact X.here
  have hlocals9 : W9 + (maxL + 11) + (headSpec ws rm).room.locals ≤ R.locals := hlocals
  have happ : (headSpec ws rm).appliesLoose y e.platform (U.calling g mk a) = true :=
    Spec.appliesLoose_calling (g := g) h hdg hn hkY hinitY
      (X.room_calling (g := g) (R' := (headSpec ws rm).room) hsize hmY hcY hframes (by rw [hlY]; omega) h4 h5) h1
  obtain ⟨mid, hmid⟩ := h.above
  have hfr : (U.setTop g).frames = (.java g :: mid) ++ below := by rw [State.frames_setTop' g h.top, hmid]; rfl
  obtain ⟨o, s₂, hsteps, -, hend, hq⟩ := Steps.callFree hM p X.admits X.cas X.clock (acts := []) hfr happ hPc trivial
  have hq' : vx_Q Qc XC mc ms free a (U.calling g mk a) o s₂ := hq
  rw [State.frames_setTop' g h.top] at hend
  obtain ⟨g₀, hg0⟩ := Option.isSome_iff_exists.mp h.top
  obtain ⟨r, hr⟩ := State.topJava?_eq_some.mp hg0
  have hr' : (({ U with heap := s₂.heap, slotsUsed := s₂.slotsUsed } : State).setVm s₂.vm).frames = .java g₀ :: r := hr
  rcases hq' with ⟨hqc, L, hfe, hL⟩ | ⟨q, rfl, E, ce, L, hx, hce, hcv, hcl, hW₂, hsm, hL⟩
  · obtain ⟨⟨v, rfl⟩, hW₂, e2, q2, q3, q4, q5, q6⟩ := id hfe
    have e3 : s₂ = ({ (U.calling g mk a).setFrames s₂.frames with heap := s₂.heap, slotsUsed := s₂.slotsUsed } : State).setVm s₂.vm := by
      have : s₂ = ({ s₂ with vm := (U.calling g mk a).vm } : State).setVm s₂.vm := rfl
      rw [e2] at this
      exact this
    obtain ⟨c₂, i₂, len₂, hc₂, hd₂, hf₂⟩ := hend
    have hW' : U.WarmedH s₂.vm := hW₂
    have hcc : c₂ = c := by
      have h1 : s₂.code? g.method = U.code? g.method := by
        rw [State.code?_eq, State.code?_eq, hW'.alike.method?]
      exact Option.some.inj (hc₂.symm.trans (h1.trans h.code))
    subst hcc
    have hlen : len₂ = len := by rw [hdg] at hd₂; cases hd₂; rfl
    subst hlen
    have hs₂ : s₂ = (({ U with heap := s₂.heap, slotsUsed := s₂.slotsUsed } : State).setVm s₂.vm).setTop { g with pc := g.pc + len₂, stack := v.toList ++ g.stack } := by
      refine e3.trans ?_
      rw [hf₂, State.calling_eq h.top, State.setFrames_setFrames, State.setTop_of_frames _ hr', hr]
      rfl
    have hsame : U.sameButNew ({ U with heap := s₂.heap, slotsUsed := s₂.slotsUsed } : State) L mc ms := by
      refine ⟨?_, q2, q3, q4, q5, q6⟩
      obtain ⟨t, ht, -⟩ := State.frames_cons hr
      show ({ U with heap := s₂.heap, slotsUsed := s₂.slotsUsed } : State) = { U.setFrames U.frames with heap := s₂.heap, slotsUsed := s₂.slotsUsed }
      rw [State.setFrames_self ht]
    subst hg
    refine Or.inl ⟨v, ⟨(({ U with heap := s₂.heap, slotsUsed := s₂.slotsUsed } : State).setVm s₂.vm), Ls ++ L, c0 + mc, s0 + ms⟩,
      ⟨X.admits, X.cas, X.clock, X.frames, X.room, X.hears, X.method, X.code, (X.here.setHeapUsed s₂.heap s₂.slotsUsed).setVm hW'.alike, X.tail, State.WarmedH.trans X.warmed hW', X.limits, X.bytes, X.same.trans (hsame.setVm s.vm)⟩,
      ⟨g, mk, s₂, L, rfl, rfl, hqc, rfl, hL, rfl, rfl⟩, ?_⟩
    show Steps p.tables e below _ ((({ U with heap := s₂.heap, slotsUsed := s₂.slotsUsed } : State).setVm s₂.vm).setTop { g with pc := g.pc + len₂, stack := v.toList ++ g.stack })
    rw [← hs₂]
    exact hsteps
  · obtain ⟨e2, q2, q3, q4, q5, q6⟩ := id hsm
    have e3 : s₂ = ({ (U.calling g mk a).setFrames s₂.frames with heap := s₂.heap, slotsUsed := s₂.slotsUsed } : State).setVm s₂.vm := by
      have : s₂ = ({ s₂ with vm := (U.calling g mk a).vm } : State).setVm s₂.vm := rfl
      rw [e2] at this
      exact this
    have hf₂ : s₂.frames = .throwing q :: .java g :: U.frames.tail := hend
    have hW' : U.WarmedH s₂.vm := hW₂
    have hs₂ : s₂ = ((({ U with heap := s₂.heap, slotsUsed := s₂.slotsUsed } : State).setVm s₂.vm).setTop g).pushFrame (.throwing q) := by
      refine e3.trans ?_
      rw [hf₂, State.calling_eq h.top, State.setFrames_setFrames, State.pushFrame, State.frames_setTop _ hr', State.setTop_of_frames _ hr', State.setFrames_setFrames, hr]
      rfl
    have hsame : U.sameButNew ({ U with heap := s₂.heap, slotsUsed := s₂.slotsUsed } : State) L mc ms := by
      refine ⟨?_, q2, q3, q4, q5, q6⟩
      obtain ⟨t, ht, -⟩ := State.frames_cons hr
      show ({ U with heap := s₂.heap, slotsUsed := s₂.slotsUsed } : State) = { U.setFrames U.frames with heap := s₂.heap, slotsUsed := s₂.slotsUsed }
      rw [State.setFrames_self ht]
    subst hg
    refine Or.inr ⟨q, ⟨(({ U with heap := s₂.heap, slotsUsed := s₂.slotsUsed } : State).setVm s₂.vm), Ls ++ L, c0 + mc, s0 + ms⟩,
      ⟨X.admits, X.cas, X.clock, X.frames, X.room, X.hears, X.method, X.code, (X.here.setHeapUsed s₂.heap s₂.slotsUsed).setVm hW'.alike, X.tail, State.WarmedH.trans X.warmed hW', X.limits, X.bytes, X.same.trans (hsame.setVm s.vm)⟩,
      ⟨g, mk, s₂, L, E, ce, rfl, rfl, hx, hce, hcv, hcl, rfl, hL, rfl, rfl⟩, ?_⟩
    show Steps p.tables e below _ (((({ U with heap := s₂.heap, slotsUsed := s₂.slotsUsed } : State).setVm s₂.vm).setTop g).pushFrame (.throwing q))
    rw [← hs₂]
    exact hsteps
end Payer
section Calls
variable {p : Program} {l : Launch} {e : Env} {R : Room} {s : State} {m : MethodId} {args : Array Value} {below : List Frame} {meth : Method} {c : Code} {T : State} {locs : List Loc} {cells slots : Nat}
theorem vx_callV (X : Stand p l e R s m args below meth c T locs cells slots) (hexec : p.tables.exec = Jvm.exec) {own C : String} {index : Nat} {y : MethodName} {bytes : ByteArray} {maxL : Nat} {ret : Option FieldType}
    (hown : s.vm.findClass own = some m.cls) (hlink : (Cond.methodLink own index y).before args s = true) (hinst : (Cond.instanceMethod y).before args s = true) (hsel : (Cond.selects C y y).before args s = true)
    (hcode : (Cond.code y bytes maxL ret).before args s = true) (hy : y.cls ≠ "java/lang/invoke/MethodHandle" ∧ y.cls ≠ "java/lang/invoke/VarHandle")
    {W9 : Nat} {Pre : Pt → Array Value → Prop} {Post : Pt → Array Value → Option Value → Pt → Prop} {PostX : Pt → Array Value → Addr → Pt → Prop} (hK : vx_Back l R p e below s args y 3 W9 Pre Post PostX)
    {b : Addr} {cellB : Cell} (hcell : T.heap[b]? = some cellB) (hobj : cellB.vm.isStatics = false) (hcls : s.vm.findClass C = some cellB.cls)
    {g : JFrame} (hg : g.method = m) (hsize : g.locals.size = c.maxLocals) {argsL rest : List Value} (hlen : ∀ sig, parseMethodDescriptor y.desc = some sig → argsL.length = sig.parameters.length)
    (hstack : g.stack = argsL.reverse ++ .ref b :: rest) (hW : 2 * g.monitorRoom + (rest.map fun v => v.category).sum ≤ W9) (hdg : decode c.code g.pc = .ok (.invokevirtual index, 3))
    (hpre : ∀ vm₁, s.WarmedH vm₁ → Pre ⟨T.setVm vm₁, locs, cells, slots⟩ (Value.ref b :: argsL).toArray) :
    (∃ (v : Option Value) (vm₁ : Vm) (B : Pt), s.WarmedH vm₁ ∧ Stand p l e R s m args below meth c B.U B.locs B.cells B.slots ∧ Post ⟨T.setVm vm₁, locs, cells, slots⟩ (Value.ref b :: argsL).toArray v B ∧
      ∀ target, Steps p.tables e below (B.U.setTop { g with pc := g.pc + 3, stack := v.toList ++ rest }) target → Steps p.tables e below (T.setTop g) target) ∨
    (∃ (q : Addr) (vm₁ : Vm) (B : Pt), s.WarmedH vm₁ ∧ Stand p l e R s m args below meth c B.U B.locs B.cells B.slots ∧ PostX ⟨T.setVm vm₁, locs, cells, slots⟩ (Value.ref b :: argsL).toArray q B ∧
      Steps p.tables e below (T.setTop g) ((B.U.setTop { g with stack := rest }).pushFrame (.throwing q))) := by
  obtain ⟨mk, methM, hnamed, hmethM, hstM, habM⟩ := Cond.instanceMethod_spec hinst
  obtain ⟨methM', cM, hmethM', -, -, -, -, -, -, hsigM⟩ := Cond.code_spec hnamed hcode
  cases hmethM.symm.trans hmethM'
  obtain ⟨c2, r2, m2, q1, q2, q3, q4, kP, hkP, hkPi⟩ := Cond.selects_spec hsel
  cases hcls.symm.trans q1
  cases (State.methodFound?_of_named hnamed hy).symm.trans q2
  cases hnamed.symm.trans q3
  have hselP : selectMethod e.platform s.vm cellB.cls mk = .method mk := by rw [Launch.admits_selectMethod X.admits]; exact q4
  obtain ⟨vm₁, X₁, hstep₁⟩ := X.invokevirtual hexec hown hlink hnamed hmethM hstM hkP hkPi hy (a := b) (cell := cellB) hcell
    (fun z h => by rw [h] at hobj; cases hobj) hselP hmethM habM hkP hkPi (g := g) hg (argsL := argsL) (rest := rest) (hlen _ hsigM) hstack hdg
  rcases hK m meth c ⟨T.setVm vm₁, locs, cells, slots⟩ { g with stack := rest } (.invokevirtual index) mk (Value.ref b :: argsL).toArray X₁ hg hsize hdg hW (X₁.named hnamed) (hpre vm₁ X₁.warmed) with ⟨v, B, X', hpost, hsteps⟩ | ⟨q, B, X', hpost, hsteps⟩
  · exact Or.inl ⟨v, vm₁, B, X₁.warmed, X', hpost, fun target h => hstep₁ _ fun acts => by rw [doInvoke_state]; exact hsteps.trans h⟩
  · exact Or.inr ⟨q, vm₁, B, X₁.warmed, X', hpost, hstep₁ _ fun acts => by rw [doInvoke_state]; exact hsteps⟩
theorem vx_callS (X : Stand p l e R s m args below meth c T locs cells slots) (hexec : p.tables.exec = Jvm.exec) {own : String} {index : Nat} {y : MethodName} {bytes : ByteArray} {maxL : Nat} {ret : Option FieldType}
    (hown : s.vm.findClass own = some m.cls) (hlink : (Cond.methodLink own index y).before args s = true) (hstat : (Cond.static y).before args s = true) (hinit : (Cond.initialized y.cls).before args s = true)
    (hcode : (Cond.code y bytes maxL ret).before args s = true) (hy : y.cls ≠ "java/lang/invoke/MethodHandle" ∧ y.cls ≠ "java/lang/invoke/VarHandle")
    {W9 : Nat} {Pre : Pt → Array Value → Prop} {Post : Pt → Array Value → Option Value → Pt → Prop} {PostX : Pt → Array Value → Addr → Pt → Prop} (hK : vx_Back l R p e below s args y 3 W9 Pre Post PostX)
    {g : JFrame} (hg : g.method = m) (hsize : g.locals.size = c.maxLocals) {argsL rest : List Value} (hlen : ∀ sig, parseMethodDescriptor y.desc = some sig → argsL.length = sig.parameters.length)
    (hstack : g.stack = argsL.reverse ++ rest) (hW : 2 * g.monitorRoom + (rest.map fun v => v.category).sum ≤ W9) (hdg : decode c.code g.pc = .ok (.invokestatic index, 3))
    (hpre : ∀ vm₁, s.WarmedH vm₁ → Pre ⟨T.setVm vm₁, locs, cells, slots⟩ argsL.toArray) :
    (∃ (v : Option Value) (vm₁ : Vm) (B : Pt), s.WarmedH vm₁ ∧ Stand p l e R s m args below meth c B.U B.locs B.cells B.slots ∧ Post ⟨T.setVm vm₁, locs, cells, slots⟩ argsL.toArray v B ∧
      ∀ target, Steps p.tables e below (B.U.setTop { g with pc := g.pc + 3, stack := v.toList ++ rest }) target → Steps p.tables e below (T.setTop g) target) ∨
    (∃ (q : Addr) (vm₁ : Vm) (B : Pt), s.WarmedH vm₁ ∧ Stand p l e R s m args below meth c B.U B.locs B.cells B.slots ∧ PostX ⟨T.setVm vm₁, locs, cells, slots⟩ argsL.toArray q B ∧
      Steps p.tables e below (T.setTop g) ((B.U.setTop { g with stack := rest }).pushFrame (.throwing q))) := by
  obtain ⟨mk, hnamed⟩ := Cond.code_named hcode
  obtain ⟨methM, cM, hmethM, -, -, -, -, -, -, hsigM⟩ := Cond.code_spec hnamed hcode
  have hstatic : methM.isStatic = true := Cond.static_spec hnamed hmethM hstat
  obtain ⟨kP, hkP, -⟩ := className_of_methodNamed hnamed
  have hinitP : kP.init = .initialized := Cond.initialized_spec (findClass_of_methodNamed hnamed) hkP hinit
  obtain ⟨vm₁, X₁, hstep₁⟩ := X.invokestatic hexec hown hlink hnamed hmethM hstatic hkP hinitP hy (g := g) hg (argsL := argsL) (rest := rest) (hlen _ hsigM) hstack hdg
  rcases hK m meth c ⟨T.setVm vm₁, locs, cells, slots⟩ { g with stack := rest } (.invokestatic index) mk argsL.toArray X₁ hg hsize hdg hW (X₁.named hnamed) (hpre vm₁ X₁.warmed) with ⟨v, B, X', hpost, hsteps⟩ | ⟨q, B, X', hpost, hsteps⟩
  · exact Or.inl ⟨v, vm₁, B, X₁.warmed, X', hpost, fun target h => hstep₁ _ fun acts => by rw [doInvoke_state]; exact hsteps.trans h⟩
  · exact Or.inr ⟨q, vm₁, B, X₁.warmed, X', hpost, hstep₁ _ fun acts => by rw [doInvoke_state]; exact hsteps⟩
end Calls
theorem vx_cls {s : State} {T : State} {vm₁ : Vm} {E : String} {k : ClassId} (hW : s.WarmedH vm₁) (h : (T.setVm vm₁).vm.findClass E = some k) : s.vm.findClass E = some k := by
  have h1 : vm₁.findClass E = some k := h
  rw [hW.alike.findClass] at h1
  exact h1
/-- the method's frame g, with q thrown over it -/
def vx_W (p : Program) (l : Launch) (e : Env) (R : Room) (s : State) (m : MethodId) (args : Array Value) (below : List Frame) (meth : Method) (c : Code) (H : Heap) (locs : List Loc) (cells slots : Nat) (Q : State → Prop) (g : JFrame) (q : Addr) : Prop :=
  ∀ T : State, T.heap = H → Stand p l e R s m args below meth c T locs cells slots → ∃ t, Steps p.tables e below ((T.setTop g).pushFrame (.throwing q)) t ∧ Q t
def vx_Run (p : Program) (l : Launch) (e : Env) (R : Room) (s : State) (m : MethodId) (args : Array Value) (below : List Frame) (meth : Method) (c : Code) (H : Heap) (locs : List Loc) (cells slots mc ms : Nat) (g : JFrame) (rest : List Value) (Qa : State → Outcome → State → Prop) (XC : String → State → State → Prop) (free : Addr → Prop) : Prop :=
  ∀ T : State, T.heap = H → Stand p l e R s m args below meth c T locs cells slots →
    (∃ (v : Option Value) (st₀ t T' : State) (L : List Loc), st₀.heap = H ∧ Stand p l e R s m args below meth c T' (locs ++ L) (cells + mc) (slots + ms) ∧ (∀ q ∈ L, free q.base) ∧ T'.heap = t.heap ∧ T'.vm = t.vm ∧ Qa st₀ (.returned v) t ∧
      Goes p e below T g T' { g with pc := g.pc + 3, stack := v.toList ++ rest }) ∨
    (∃ (q : Addr) (st₀ t T' : State) (L : List Loc) (E : String) (ce : Cell), st₀.heap = H ∧ Stand p l e R s m args below meth c T' (locs ++ L) (cells + mc) (slots + ms) ∧ (∀ z ∈ L, free z.base) ∧ T'.heap = t.heap ∧ T'.vm = t.vm ∧ XC E st₀ t ∧ t.heap[q]? = some ce ∧ ce.vm = .none ∧ s.vm.findClass E = some ce.cls ∧
      Steps p.tables e below (T.setTop g) ((T'.setTop { g with stack := rest }).pushFrame (.throwing q)))
def vx_X {S : Type} (px : S → Prop) (B : String → S → State → Prop) (A : Nat → Prop) : String → State → State → Prop := fun E st t => ∃ u : S, px u ∧ B E u t ∧ va_F A st t
section Runs
variable {p : Program} {l : Launch} {e : Env} {R : Room} {s : State} {m : MethodId} {args : Array Value} {below : List Frame} {meth : Method} {c : Code} {H : Heap} {locs : List Loc} {cells slots : Nat}
variable {y : MethodName} {bytes cc : ByteArray} {maxL nL mc ms n index : Nat} {ret : Option FieldType} {ws : List Cond} {rm : Room} {Pc : Array Value → State → Prop} {Qc : Array Value → State → Outcome → State → Prop} {XC : String → State → State → Prop} {free : Addr → Prop} {Ts : List Cond} {own C : String} {b : Addr} {As rest : List Value} {g : JFrame}
theorem vx_callBack (cb : CallB R s args own index y bytes maxL ret ws rm mc ms n) (hM : vx_Met l y ws rm Pc Qc XC mc ms free) (hbl : FrameBlind Pc) : vx_Back l R p e below s args y 3 8 (PreOf R mc ms Pc) (PostOf Qc mc ms free) (vx_Post XC mc ms free) := by
  obtain ⟨hrc, hrs, hfr, hlo, hws, hcw, -, hini, -⟩ := cb
  exact vx_back (bytes := bytes) (maxL := maxL) (ret := ret) hM hbl hrc hrs hfr hlo hws hcw (fun a' U hW => word_at hW (Or.inl (by first | rfl | simp [Cond.onTables, Cond.keeps, Cond.steady])) hini)
theorem vx_runV (S : CallFix p m c cc nL s args Ts own) (hM : vx_Met l y ws rm Pc Qc XC mc ms free) (cw : CallW R s args own C index y bytes maxL ret ws rm mc ms n) (hp : PreV s H C b Pc As)
    (hg : g.method = m) (hn : As.length = n) (hsize : g.locals.size = nL) (hstack : g.stack = As.reverse ++ .ref b :: rest) (hW : 2 * g.monitorRoom + (rest.map fun v => v.category).sum ≤ 8) (hdg : decode cc g.pc = .ok (.invokevirtual index, 3)) (hf : cells + mc ≤ R.cells ∧ slots + ms ≤ R.slots) :
    vx_Run p l e R s m args below meth c H locs cells slots mc ms g rest (Qc (Value.ref b :: As).toArray) XC free := by
  have hK : vx_Back l R p e below s args y 3 8 (PreOf R mc ms Pc) (PostOf Qc mc ms free) (vx_Post XC mc ms free) := vx_callBack cw.1 hM hp.1
  obtain ⟨⟨-, -, -, -, -, -, hcode, -, hy, hlen, hl⟩, hin, hse⟩ := cw
  obtain ⟨hx, hb, hml, ho, -⟩ := S
  obtain ⟨-, ⟨cellB, hcB, hoB, hclB⟩, hPc⟩ := hp
  intro T hT X
  rcases vx_callV X hx (C := C) (bytes := bytes) (maxL := maxL) (ret := ret) ho hl hin hse hcode hy hK (by rw [hT]; exact hcB) hoB hclB hg (hsize.trans hml.symm) (argsL := As) (rest := rest) (fun sig h => hn.trans (hlen sig h)) hstack hW (by rw [hb]; exact hdg)
    (fun vm₁ hW₁ => ⟨hf.1, hf.2, hPc (T.setVm vm₁) hT hW₁⟩) with ⟨v, vm₁, ⟨U', l2, c2, s2⟩, hW₁, X', ⟨g', mk, t, L, e1, e2, hq, h1, hL, h2, h3⟩, st⟩ | ⟨q, vm₁, ⟨U', l2, c2, s2⟩, hW₁, X', ⟨g', mk, t, L, E, ce, e1, e2, hq, hce, hcv, hcl, h1, hL, h2, h3⟩, st⟩
  · dsimp only [Pt.U, Pt.locs, Pt.cells, Pt.slots] at X' e1 e2 h1 h2 h3 st
    subst h1; subst h2; subst h3
    exact Or.inl ⟨v, (T.setVm vm₁).calling g' mk (Value.ref b :: As).toArray, t, U', L, hT, X', hL, e1, e2, hq, st⟩
  · dsimp only [Pt.U, Pt.locs, Pt.cells, Pt.slots] at X' e1 e2 h1 h2 h3 st hcl
    subst h1; subst h2; subst h3
    exact Or.inr ⟨q, (T.setVm vm₁).calling g' mk (Value.ref b :: As).toArray, t, U', L, E, ce, hT, X', hL, e1, e2, hq, hce, hcv, vx_cls hW₁ hcl, st⟩
theorem vx_runS (S : CallFix p m c cc nL s args Ts own) (hM : vx_Met l y ws rm Pc Qc XC mc ms free) (cw : CallB R s args own index y bytes maxL ret ws rm mc ms n ∧ (Cond.static y).before args s = true) (hp : PreS s H Pc As)
    (hg : g.method = m) (hn : As.length = n) (hsize : g.locals.size = nL) (hstack : g.stack = As.reverse ++ rest) (hW : 2 * g.monitorRoom + (rest.map fun v => v.category).sum ≤ 8) (hdg : decode cc g.pc = .ok (.invokestatic index, 3)) (hf : cells + mc ≤ R.cells ∧ slots + ms ≤ R.slots) :
    vx_Run p l e R s m args below meth c H locs cells slots mc ms g rest (Qc As.toArray) XC free := by
  have hK : vx_Back l R p e below s args y 3 8 (PreOf R mc ms Pc) (PostOf Qc mc ms free) (vx_Post XC mc ms free) := vx_callBack cw.1 hM hp.1
  obtain ⟨⟨-, -, -, -, -, -, hcode, hini, hy, hlen, hl⟩, hstt⟩ := cw
  obtain ⟨hx, hb, hml, ho, -⟩ := S
  intro T hT X
  rcases vx_callS X hx (bytes := bytes) (maxL := maxL) (ret := ret) ho hl hstt hini hcode hy hK hg (hsize.trans hml.symm) (argsL := As) (rest := rest) (fun sig h => hn.trans (hlen sig h)) hstack hW (by rw [hb]; exact hdg)
    (fun vm₁ hW₁ => ⟨hf.1, hf.2, hp.2 (T.setVm vm₁) hT hW₁⟩) with ⟨v, vm₁, ⟨U', l2, c2, s2⟩, hW₁, X', ⟨g', mk, t, L, e1, e2, hq, h1, hL, h2, h3⟩, st⟩ | ⟨q, vm₁, ⟨U', l2, c2, s2⟩, hW₁, X', ⟨g', mk, t, L, E, ce, e1, e2, hq, hce, hcv, hcl, h1, hL, h2, h3⟩, st⟩
  · dsimp only [Pt.U, Pt.locs, Pt.cells, Pt.slots] at X' e1 e2 h1 h2 h3 st
    subst h1; subst h2; subst h3
    exact Or.inl ⟨v, (T.setVm vm₁).calling g' mk As.toArray, t, U', L, hT, X', hL, e1, e2, hq, st⟩
  · dsimp only [Pt.U, Pt.locs, Pt.cells, Pt.slots] at X' e1 e2 h1 h2 h3 st hcl
    subst h1; subst h2; subst h3
    exact Or.inr ⟨q, (T.setVm vm₁).calling g' mk As.toArray, t, U', L, E, ce, hT, X', hL, e1, e2, hq, hce, hcv, vx_cls hW₁ hcl, st⟩
end Runs
section Rows
variable {p : Program} {l : Launch} {e : Env} {R : Room} {s : State} {m : MethodId} {args : Array Value} {below : List Frame} {meth : Method} {c : Code} {H : Heap} {locs : List Loc} {cells slots : Nat} {Q : State → Prop}
variable {mc ms : Nat} {free : Addr → Prop} {A0 A1 : Nat → Prop} {H0 : Heap} {a : Array Value} {pc : Nat} {ls : Array Slot} {st0 rest : List Value}
theorem vx_keep {st₀ t T' : State} {L : List Loc} (h0 : st₀.heap = H) (e1 : T'.heap = t.heap) (hS : va_S A0 H0 H locs) (hA : ∀ q, q < H.size → A1 q → A0 q) (hf : ∀ q, free q → A0 q) (hL : ∀ q ∈ L, free q.base) (hF : va_F A1 st₀ t) :
    H.size ≤ T'.heap.size ∧ (∀ q : Nat, q < H.size → ¬ A1 q → T'.heap[q]? = H[q]?) ∧ va_S A0 H0 T'.heap (locs ++ L) := by
  obtain ⟨hz, hk⟩ := hF
  rw [h0] at hz hk
  exact ⟨by rw [e1]; exact hz, fun q h1 h2 => by rw [e1]; exact hk q h1 h2,
    ⟨Nat.le_trans hS.1 (by rw [e1]; exact hz), fun q h1 h2 => by rw [e1, hk q (Nat.lt_of_lt_of_le h1 hS.1) (fun z => h2 (hA q (Nat.lt_of_lt_of_le h1 hS.1) z))]; exact hS.2.1 q h1 h2, fun q hq => by
      rcases List.mem_append.mp hq with h | h
      · exact hS.2.2 q h
      · exact hf _ (hL q h)⟩⟩
theorem vx_calli {S SX : Type} {post : Int32 → S → Prop} {px : SX → Prop} {B : S → State → Prop} {BX : String → SX → State → Prop} {AX : Nat → Prop} (hr : vx_Run p l e R s m args below meth c H locs cells slots mc ms (F0 m pc ls st0) rest (va_Qi post B A1 a) (vx_X px BX AX) free) (hS : va_S A0 H0 H locs) (hA : ∀ q, q < H.size → A1 q → A0 q) (hf : ∀ q, free q → A0 q) (hAX : ∀ q, q < H.size → AX q → A0 q)
    (kx : ∀ (E : String) (ce : Cell) (q9 : Addr) (u : SX) (t : State) (H1 : Heap) (locs1 : List Loc), t.heap = H1 → s.vm.Alike t.vm → px u → BX E u t → H.size ≤ H1.size → (∀ q : Nat, q < H.size → ¬ AX q → H1[q]? = H[q]?) → va_S A0 H0 H1 locs1 → H1[q9]? = some ce → ce.vm = .none → s.vm.findClass E = some ce.cls → vx_W p l e R s m args below meth c H1 locs1 (cells + mc) (slots + ms) Q (F0 m pc ls rest) q9)
    (kk : ∀ (r : Int32) (u : S) (t : State) (H1 : Heap) (locs1 : List Loc), t.heap = H1 → s.vm.Alike t.vm → post r u → B u t → H.size ≤ H1.size → (∀ q : Nat, q < H.size → ¬ A1 q → H1[q]? = H[q]?) → va_S A0 H0 H1 locs1 → W p l e R s m args below meth c H1 locs1 (cells + mc) (slots + ms) Q (F0 m (pc + 3) ls (.int r :: rest))) : W p l e R s m args below meth c H locs cells slots Q (F0 m pc ls st0) := by
  intro T hT X
  rcases hr T hT X with ⟨v, st₀, t, T', L, h0, X', hL, e1, e2, ⟨⟨r, u, hv, hp, hb⟩, hF⟩, st⟩ | ⟨q, st₀, t, T', L, E, ce, h0, X', hL, e1, e2, ⟨u, hp, hb, hF⟩, hce, hcv, hcl, st⟩
  · cases hv
    obtain ⟨k1, k2, k3⟩ := vx_keep h0 e1 hS hA hf hL hF
    obtain ⟨t2, a1, b1⟩ := kk r u t T'.heap (locs ++ L) e1.symm (by rw [← e2]; exact X'.warmed.alike) hp hb k1 k2 k3 T' rfl X'
    exact ⟨t2, st t2 a1, b1⟩
  · obtain ⟨k1, k2, k3⟩ := vx_keep h0 e1 hS hAX hf hL hF
    obtain ⟨t2, a1, b1⟩ := kx E ce q u t T'.heap (locs ++ L) e1.symm (by rw [← e2]; exact X'.warmed.alike) hp hb k1 k2 k3 (by rw [e1]; exact hce) hcv hcl T' rfl X'
    exact ⟨t2, st.trans a1, b1⟩
theorem vx_calll {S SX : Type} {post : Int64 → S → Prop} {px : SX → Prop} {B : S → State → Prop} {BX : String → SX → State → Prop} {AX : Nat → Prop} (hr : vx_Run p l e R s m args below meth c H locs cells slots mc ms (F0 m pc ls st0) rest (va_Ql post B A1 a) (vx_X px BX AX) free) (hS : va_S A0 H0 H locs) (hA : ∀ q, q < H.size → A1 q → A0 q) (hf : ∀ q, free q → A0 q) (hAX : ∀ q, q < H.size → AX q → A0 q)
    (kx : ∀ (E : String) (ce : Cell) (q9 : Addr) (u : SX) (t : State) (H1 : Heap) (locs1 : List Loc), t.heap = H1 → s.vm.Alike t.vm → px u → BX E u t → H.size ≤ H1.size → (∀ q : Nat, q < H.size → ¬ AX q → H1[q]? = H[q]?) → va_S A0 H0 H1 locs1 → H1[q9]? = some ce → ce.vm = .none → s.vm.findClass E = some ce.cls → vx_W p l e R s m args below meth c H1 locs1 (cells + mc) (slots + ms) Q (F0 m pc ls rest) q9)
    (kk : ∀ (r : Int64) (u : S) (t : State) (H1 : Heap) (locs1 : List Loc), t.heap = H1 → s.vm.Alike t.vm → post r u → B u t → H.size ≤ H1.size → (∀ q : Nat, q < H.size → ¬ A1 q → H1[q]? = H[q]?) → va_S A0 H0 H1 locs1 → W p l e R s m args below meth c H1 locs1 (cells + mc) (slots + ms) Q (F0 m (pc + 3) ls (.long r :: rest))) : W p l e R s m args below meth c H locs cells slots Q (F0 m pc ls st0) := by
  intro T hT X
  rcases hr T hT X with ⟨v, st₀, t, T', L, h0, X', hL, e1, e2, ⟨⟨r, u, hv, hp, hb⟩, hF⟩, st⟩ | ⟨q, st₀, t, T', L, E, ce, h0, X', hL, e1, e2, ⟨u, hp, hb, hF⟩, hce, hcv, hcl, st⟩
  · cases hv
    obtain ⟨k1, k2, k3⟩ := vx_keep h0 e1 hS hA hf hL hF
    obtain ⟨t2, a1, b1⟩ := kk r u t T'.heap (locs ++ L) e1.symm (by rw [← e2]; exact X'.warmed.alike) hp hb k1 k2 k3 T' rfl X'
    exact ⟨t2, st t2 a1, b1⟩
  · obtain ⟨k1, k2, k3⟩ := vx_keep h0 e1 hS hAX hf hL hF
    obtain ⟨t2, a1, b1⟩ := kx E ce q u t T'.heap (locs ++ L) e1.symm (by rw [← e2]; exact X'.warmed.alike) hp hb k1 k2 k3 (by rw [e1]; exact hce) hcv hcl T' rfl X'
    exact ⟨t2, st.trans a1, b1⟩
theorem vx_callf {S SX : Type} {post : UInt32 → S → Prop} {px : SX → Prop} {B : S → State → Prop} {BX : String → SX → State → Prop} {AX : Nat → Prop} (hr : vx_Run p l e R s m args below meth c H locs cells slots mc ms (F0 m pc ls st0) rest (va_Qf post B A1 a) (vx_X px BX AX) free) (hS : va_S A0 H0 H locs) (hA : ∀ q, q < H.size → A1 q → A0 q) (hf : ∀ q, free q → A0 q) (hAX : ∀ q, q < H.size → AX q → A0 q)
    (kx : ∀ (E : String) (ce : Cell) (q9 : Addr) (u : SX) (t : State) (H1 : Heap) (locs1 : List Loc), t.heap = H1 → s.vm.Alike t.vm → px u → BX E u t → H.size ≤ H1.size → (∀ q : Nat, q < H.size → ¬ AX q → H1[q]? = H[q]?) → va_S A0 H0 H1 locs1 → H1[q9]? = some ce → ce.vm = .none → s.vm.findClass E = some ce.cls → vx_W p l e R s m args below meth c H1 locs1 (cells + mc) (slots + ms) Q (F0 m pc ls rest) q9)
    (kk : ∀ (r : UInt32) (u : S) (t : State) (H1 : Heap) (locs1 : List Loc), t.heap = H1 → s.vm.Alike t.vm → post r u → B u t → H.size ≤ H1.size → (∀ q : Nat, q < H.size → ¬ A1 q → H1[q]? = H[q]?) → va_S A0 H0 H1 locs1 → W p l e R s m args below meth c H1 locs1 (cells + mc) (slots + ms) Q (F0 m (pc + 3) ls (.float r :: rest))) : W p l e R s m args below meth c H locs cells slots Q (F0 m pc ls st0) := by
  intro T hT X
  rcases hr T hT X with ⟨v, st₀, t, T', L, h0, X', hL, e1, e2, ⟨⟨r, u, hv, hp, hb⟩, hF⟩, st⟩ | ⟨q, st₀, t, T', L, E, ce, h0, X', hL, e1, e2, ⟨u, hp, hb, hF⟩, hce, hcv, hcl, st⟩
  · cases hv
    obtain ⟨k1, k2, k3⟩ := vx_keep h0 e1 hS hA hf hL hF
    obtain ⟨t2, a1, b1⟩ := kk r u t T'.heap (locs ++ L) e1.symm (by rw [← e2]; exact X'.warmed.alike) hp hb k1 k2 k3 T' rfl X'
    exact ⟨t2, st t2 a1, b1⟩
  · obtain ⟨k1, k2, k3⟩ := vx_keep h0 e1 hS hAX hf hL hF
    obtain ⟨t2, a1, b1⟩ := kx E ce q u t T'.heap (locs ++ L) e1.symm (by rw [← e2]; exact X'.warmed.alike) hp hb k1 k2 k3 (by rw [e1]; exact hce) hcv hcl T' rfl X'
    exact ⟨t2, st.trans a1, b1⟩
theorem vx_calld {S SX : Type} {post : UInt64 → S → Prop} {px : SX → Prop} {B : S → State → Prop} {BX : String → SX → State → Prop} {AX : Nat → Prop} (hr : vx_Run p l e R s m args below meth c H locs cells slots mc ms (F0 m pc ls st0) rest (va_Qd post B A1 a) (vx_X px BX AX) free) (hS : va_S A0 H0 H locs) (hA : ∀ q, q < H.size → A1 q → A0 q) (hf : ∀ q, free q → A0 q) (hAX : ∀ q, q < H.size → AX q → A0 q)
    (kx : ∀ (E : String) (ce : Cell) (q9 : Addr) (u : SX) (t : State) (H1 : Heap) (locs1 : List Loc), t.heap = H1 → s.vm.Alike t.vm → px u → BX E u t → H.size ≤ H1.size → (∀ q : Nat, q < H.size → ¬ AX q → H1[q]? = H[q]?) → va_S A0 H0 H1 locs1 → H1[q9]? = some ce → ce.vm = .none → s.vm.findClass E = some ce.cls → vx_W p l e R s m args below meth c H1 locs1 (cells + mc) (slots + ms) Q (F0 m pc ls rest) q9)
    (kk : ∀ (r : UInt64) (u : S) (t : State) (H1 : Heap) (locs1 : List Loc), t.heap = H1 → s.vm.Alike t.vm → post r u → B u t → H.size ≤ H1.size → (∀ q : Nat, q < H.size → ¬ A1 q → H1[q]? = H[q]?) → va_S A0 H0 H1 locs1 → W p l e R s m args below meth c H1 locs1 (cells + mc) (slots + ms) Q (F0 m (pc + 3) ls (.double r :: rest))) : W p l e R s m args below meth c H locs cells slots Q (F0 m pc ls st0) := by
  intro T hT X
  rcases hr T hT X with ⟨v, st₀, t, T', L, h0, X', hL, e1, e2, ⟨⟨r, u, hv, hp, hb⟩, hF⟩, st⟩ | ⟨q, st₀, t, T', L, E, ce, h0, X', hL, e1, e2, ⟨u, hp, hb, hF⟩, hce, hcv, hcl, st⟩
  · cases hv
    obtain ⟨k1, k2, k3⟩ := vx_keep h0 e1 hS hA hf hL hF
    obtain ⟨t2, a1, b1⟩ := kk r u t T'.heap (locs ++ L) e1.symm (by rw [← e2]; exact X'.warmed.alike) hp hb k1 k2 k3 T' rfl X'
    exact ⟨t2, st t2 a1, b1⟩
  · obtain ⟨k1, k2, k3⟩ := vx_keep h0 e1 hS hAX hf hL hF
    obtain ⟨t2, a1, b1⟩ := kx E ce q u t T'.heap (locs ++ L) e1.symm (by rw [← e2]; exact X'.warmed.alike) hp hb k1 k2 k3 (by rw [e1]; exact hce) hcv hcl T' rfl X'
    exact ⟨t2, st.trans a1, b1⟩
theorem vx_callv {S SX : Type} {post : S → Prop} {px : SX → Prop} {B : S → State → Prop} {BX : String → SX → State → Prop} {AX : Nat → Prop} (hr : vx_Run p l e R s m args below meth c H locs cells slots mc ms (F0 m pc ls st0) rest (va_Qv post B A1 a) (vx_X px BX AX) free) (hS : va_S A0 H0 H locs) (hA : ∀ q, q < H.size → A1 q → A0 q) (hf : ∀ q, free q → A0 q) (hAX : ∀ q, q < H.size → AX q → A0 q)
    (kx : ∀ (E : String) (ce : Cell) (q9 : Addr) (u : SX) (t : State) (H1 : Heap) (locs1 : List Loc), t.heap = H1 → s.vm.Alike t.vm → px u → BX E u t → H.size ≤ H1.size → (∀ q : Nat, q < H.size → ¬ AX q → H1[q]? = H[q]?) → va_S A0 H0 H1 locs1 → H1[q9]? = some ce → ce.vm = .none → s.vm.findClass E = some ce.cls → vx_W p l e R s m args below meth c H1 locs1 (cells + mc) (slots + ms) Q (F0 m pc ls rest) q9)
    (kk : ∀ (u : S) (t : State) (H1 : Heap) (locs1 : List Loc), t.heap = H1 → s.vm.Alike t.vm → post u → B u t → H.size ≤ H1.size → (∀ q : Nat, q < H.size → ¬ A1 q → H1[q]? = H[q]?) → va_S A0 H0 H1 locs1 → W p l e R s m args below meth c H1 locs1 (cells + mc) (slots + ms) Q (F0 m (pc + 3) ls (rest))) : W p l e R s m args below meth c H locs cells slots Q (F0 m pc ls st0) := by
  intro T hT X
  rcases hr T hT X with ⟨v, st₀, t, T', L, h0, X', hL, e1, e2, ⟨⟨u, hv, hp, hb⟩, hF⟩, st⟩ | ⟨q, st₀, t, T', L, E, ce, h0, X', hL, e1, e2, ⟨u, hp, hb, hF⟩, hce, hcv, hcl, st⟩
  · cases hv
    obtain ⟨k1, k2, k3⟩ := vx_keep h0 e1 hS hA hf hL hF
    obtain ⟨t2, a1, b1⟩ := kk u t T'.heap (locs ++ L) e1.symm (by rw [← e2]; exact X'.warmed.alike) hp hb k1 k2 k3 T' rfl X'
    exact ⟨t2, st t2 a1, b1⟩
  · obtain ⟨k1, k2, k3⟩ := vx_keep h0 e1 hS hAX hf hL hF
    obtain ⟨t2, a1, b1⟩ := kx E ce q u t T'.heap (locs ++ L) e1.symm (by rw [← e2]; exact X'.warmed.alike) hp hb k1 k2 k3 (by rw [e1]; exact hce) hcv hcl T' rfl X'
    exact ⟨t2, st.trans a1, b1⟩
/-- caught by the row x of this method's table; the rows ahead don't take it -/
theorem vx_catch {own name : String} {E : String} {ce : Cell} {q : Addr} (hown : s.vm.findClass own = some m.cls) (pre : List ExceptionTableEntry) (x : ExceptionTableEntry) (suf : List ExceptionTableEntry) (hsplit : c.exceptionTable.toList = pre ++ x :: suf)
    (hpass : ∀ z ∈ pre, covers z pc = false ∨ (z.catchType ≠ 0 ∧ ∃ nm : String, (Cond.classLink own z.catchType nm).before args s = true ∧ va_Nc E nm s)) (hx : covers x pc = true) (h0 : x.catchType ≠ 0)
    (hlink : (Cond.classLink own x.catchType name).before args s = true) (hcast : (Cond.castable E name).before args s = true) (hcell : H[q]? = some ce) (hv : ce.vm = .none) (hcl : s.vm.findClass E = some ce.cls)
    (kk : W p l e R s m args below meth c H locs cells slots Q (F0 m x.handlerPc ls [.ref q])) : vx_W p l e R s m args below meth c H locs cells slots Q (F0 m pc ls rest) q := by
  intro T hT X
  have hpl : e.platform.magicAccessors = ({} : Platform).magicAccessors := by rw [X.admits.platform]
  obtain ⟨c3, c4, hc3, hc4, hasg⟩ := Cond.castable_spec hcast
  cases Option.some.inj (hc3.symm.trans hcl)
  obtain ⟨c5, hc5, hcl5⟩ := Cond.classLink_spec hown hlink e.platform hpl
  cases Option.some.inj (hc4.symm.trans hc5)
  obtain ⟨vm', X', st⟩ := X.thenCaughtThrough q (g := F0 m pc ls rest) rfl (Steps.refl _) (by rw [hT]; exact hcell) (by rw [hv]; rfl) (by obtain ⟨k9, h9, -⟩ := Vm.findClass_spec hcl; exact ⟨k9, h9⟩) pre x suf hsplit
    (fun z hz => by
      rcases hpass z hz with h | ⟨hz0, nm, hl1, hn1⟩
      · exact Or.inl h
      · obtain ⟨c6, hc6, hcl6⟩ := Cond.classLink_spec hown hl1 e.platform hpl
        obtain ⟨a8, b8, h1, h2, h3⟩ := hn1
        cases Option.some.inj (h1.symm.trans hcl)
        cases Option.some.inj (h2.symm.trans hc6)
        exact Or.inr ⟨hz0, _, hcl6, h3⟩) hx (Or.inr ⟨h0, c4, hcl5, hasg⟩)
  obtain ⟨t, a1, b1⟩ := kk (T.setVm vm') hT X'
  exact ⟨t, st.trans a1, b1⟩
end Rows
section Ends
variable {p : Program} {l : Launch} {e : Env} {R : Room} {s : State} {m : MethodId} {args : Array Value} {below : List Frame} {meth : Method} {c : Code} {H : Heap} {locs : List Loc} {cells slots : Nat} {Q : State → Prop}
variable {mc ms : Nat} {free : Addr → Prop} {A0 A1 : Nat → Prop} {H0 : Heap} {a : Array Value} {ls : Array Slot} {st0 rest : List Value}
variable {Qc : Array Value → State → Outcome → State → Prop} {XC : String → State → State → Prop}
/-- what a body that may throw owes at its end -/
def vx_MQ (below : List Frame) (Qc : Array Value → State → Outcome → State → Prop) (XC : String → State → State → Prop) (a : Array Value) (s : State) (mc ms : Nat) (free : Addr → Prop) : State → Prop := fun t =>
  ∃ o, t.status = .running ∧ Ended t below o ∧ vx_Q Qc XC mc ms free a s o t
theorem vx_ret {g : JFrame} {mc ms : Nat} (k : W p l e R s m args below meth c H locs cells slots (MQ below Qc args s mc ms free) g) : W p l e R s m args below meth c H locs cells slots (vx_MQ below Qc XC args s mc ms free) g := by
  intro T hT X
  obtain ⟨t, a1, o, b1, b2, b3, b4⟩ := k T hT X
  exact ⟨t, a1, o, b1, b2, Or.inl ⟨b3, b4⟩⟩
/-- not caught here: it goes on to the caller -/
theorem vx_widen {g : JFrame} {q : Addr} {k n : Nat} (h1 : cells ≤ k) (h2 : slots ≤ n) (kk : vx_W p l e R s m args below meth c H locs k n Q g q) : vx_W p l e R s m args below meth c H locs cells slots Q g q := fun T hT X => kk T hT (stand_widen X h1 h2)
theorem vx_out {pc : Nat} {E : String} {ce : Cell} {q : Addr} {mc ms : Nat} (hout : ∀ x ∈ c.exceptionTable.toList, covers x pc = false) (hlocks : meth.locks = false) (hcell : H[q]? = some ce) (hv : ce.vm = .none) (hcl : s.vm.findClass E = some ce.cls)
    (hx : ∀ t : State, t.heap = H → s.vm.Alike t.vm → XC E s t) (hf : ∀ z ∈ locs, free z.base) (hc : cells ≤ mc) (hs : slots ≤ ms) :
    vx_W p l e R s m args below meth c H locs cells slots (vx_MQ below Qc XC args s mc ms free) (F0 m pc ls rest) q := by
  intro T hT X
  obtain ⟨st1, hrun, hend, hW, hsm⟩ := X.leaveThrown q (g := F0 m pc ls rest) rfl rfl rfl hout hlocks
  have hcell9 : (T.setFrames (.throwing q :: below)).heap[q]? = some ce := by
    show T.heap[q]? = some ce
    rw [hT]; exact hcell
  exact ⟨_, st1, .threw q, hrun, hend, Or.inr ⟨q, rfl, E, ce, locs, hx _ hT hW.alike, hcell9, hv, hcl, hW, hsm.mono hc hs, hf⟩⟩
theorem vx_frame {U : State} {k n : Nat} (h : s.sameButNew ({ U with vm := s.vm } : State) locs k n) : s.heap.size ≤ U.heap.size ∧ ∀ q : Nat, q < s.heap.size → (∀ z ∈ locs, z.base ≠ q) → U.heap[q]? = s.heap[q]? := by
  obtain ⟨-, h2, -, -, -, h6⟩ := h
  refine ⟨h2, fun q hq hz => ?_⟩
  obtain ⟨c9, e1, e2, e3, e4⟩ := h6 q _ (Array.getElem?_eq_getElem hq)
  have hs : c9.slots = (s.heap[q]).slots := Array.ext_getElem? fun i => e4 i fun hm => hz _ hm rfl
  have h9 : c9 = s.heap[q] := by
    rw [hs] at e2
    exact e2
  have e5 : U.heap[q]? = some c9 := e1
  rw [e5, h9, Array.getElem?_eq_getElem hq]
/-- the words of a throw but the four that speak of the heap -/
def vx_no (w : Cond) : Bool := decide (w ≠ .isRef (.static Bundle.tN "UNASSIGNED_STACK" Bundle.steD)) && decide (w ≠ .isRef (.static Bundle.tN "SUPPRESSED_SENTINEL" Bundle.listD)) && decide (w ≠ .laysStatic Bundle.tN "UNASSIGNED_STACK" Bundle.steD) && decide (w ≠ .laysStatic Bundle.tN "SUPPRESSED_SENTINEL" Bundle.listD)
def vx_at0 (own : String) (ic : Nat) (X : String) (names : List String) : List Cond := (Bundle.ownAtoms0 own ic X names).filter vx_no
def vx_atS (own : String) (ic : Nat) (X : String) (names : List String) : List Cond := (Bundle.ownAtoms own ic X names).filter vx_no
/-- a word that the tables alone decide, or a good one -/
def vx_ot (w : Cond) : Bool := w.onTables || goodWord w
theorem vx_ot_at {args a' : Array Value} {s U : State} {w : Cond} (hW : s.WarmedH U.vm) (hvm : s.vm = U.vm) (hg : vx_ot w = true) (h : w.before args s = true) : w.before a' U = true := by
  simp only [vx_ot, Bool.or_eq_true] at hg
  rcases hg with hg | hg
  · exact va_tabs hg hvm h
  · exact word_at hW (good_of_word hg) h
/-- a list's words: the good ones out of the method's own list, the others by premises of their own -/
theorem vx_hat {args : Array Value} {s : State} {L B : List Cond} (h1 : ∀ w ∈ L.filter goodWord, w.before args s = true) (h2 : ∀ w ∈ L.filter (fun w => !goodWord w), w ∈ B) (h3 : ∀ w ∈ B, w.before args s = true) : ∀ w ∈ L, w.before args s = true := by
  intro w hw
  by_cases g : goodWord w = true
  · exact h1 w (List.mem_filter.mpr ⟨hw, g⟩)
  · refine h3 w (h2 w (List.mem_filter.mpr ⟨hw, ?_⟩))
    show (!goodWord w) = true
    cases hgw : goodWord w
    · rfl
    · exact absurd hgw g
theorem vx_c {args : Array Value} {s : State} {w : Cond} {B : List Cond} (h : w.before args s = true) (t : ∀ w ∈ B, w.before args s = true) : ∀ w' ∈ w :: B, w'.before args s = true := fun w' h' => (List.mem_cons.mp h').elim (fun e => by rw [e]; exact h) (t w')
theorem vx_n {args : Array Value} {s : State} : ∀ w ∈ ([] : List Cond), w.before args s = true := fun _ h => nomatch h
theorem vx_own {args : Array Value} {s : State} {L : List Cond} (h1 : ∀ w ∈ L.filter vx_no, w.before args s = true)
    (hU : (Cond.isRef (.static Bundle.tN "UNASSIGNED_STACK" Bundle.steD)).before args s = true) (hN : (Cond.isRef (.static Bundle.tN "SUPPRESSED_SENTINEL" Bundle.listD)).before args s = true)
    (lU : (Cond.laysStatic Bundle.tN "UNASSIGNED_STACK" Bundle.steD).before args s = true) (lN : (Cond.laysStatic Bundle.tN "SUPPRESSED_SENTINEL" Bundle.listD).before args s = true) : ∀ w ∈ L, w.before args s = true := by
  intro w hw
  by_cases e1 : w = .isRef (.static Bundle.tN "UNASSIGNED_STACK" Bundle.steD)
  · rw [e1]; exact hU
  · by_cases e2 : w = .isRef (.static Bundle.tN "SUPPRESSED_SENTINEL" Bundle.listD)
    · rw [e2]; exact hN
    · by_cases e3 : w = .laysStatic Bundle.tN "UNASSIGNED_STACK" Bundle.steD
      · rw [e3]; exact lU
      · by_cases e4 : w = .laysStatic Bundle.tN "SUPPRESSED_SENTINEL" Bundle.listD
        · rw [e4]; exact lN
        · exact h1 w (List.mem_filter.mpr ⟨hw, by unfold vx_no; rw [decide_eq_true e1, decide_eq_true e2, decide_eq_true e3, decide_eq_true e4]; rfl⟩)
/-- where a static field lies, its class's statics cell in H -/
def vx_L (C n d : String) (A : Nat → Prop) (U : State) (H : Heap) : Prop := ∃ (c : ClassId) (k : Class) (i : Nat) (f : Field) (a : Nat) (cell : Cell), U.vm.findClass C = some c ∧ U.fieldFound? C n d = some (c, k, i, f) ∧ f.isStatic = true ∧ k.statics = some a ∧ H[a]? = some cell ∧ cell.vm.isStatics = true ∧ cell.cls = c ∧ f.slot < cell.slots.size ∧ k.staticTypes[f.slot]? = some f.type ∧ ¬ A a
theorem vx_L.moved {C n d : String} {A : Nat → Prop} {u U : State} {H : Heap} (hvm : u.vm.Alike U.vm) (h : vx_L C n d A u H) : vx_L C n d A U H := by
  obtain ⟨c, k, i, f, a, cell, h1, h2, h3, h4, h5, h6, h7, h8, h9, h10⟩ := h
  obtain ⟨k', hi', he⟩ := State.fieldFound?_setVm hvm h2
  exact ⟨c, k', i, f, a, cell, by rw [hvm.findClass]; exact h1, hi', h3, by rw [he]; exact h4, h5, h6, h7, h8, by rw [he]; exact h9, h10⟩
theorem vx_L.kept {C n d : String} {A : Nat → Prop} {U : State} {H H1 : Heap} (h : vx_L C n d A U H) (hq : ∀ a : Nat, a < H.size → ¬ A a → H1[a]? = H[a]?) : vx_L C n d A U H1 := by
  obtain ⟨c, k, i, f, a, cell, h1, h2, h3, h4, h5, h6, h7, h8, h9, h10⟩ := h
  exact ⟨c, k, i, f, a, cell, h1, h2, h3, h4, by rw [hq a (Array.getElem?_eq_some_iff.mp h5).1 h10]; exact h5, h6, h7, h8, h9, h10⟩
theorem vx_L.narrow {C n d : String} {A B : Nat → Prop} {U : State} {H : Heap} (h : vx_L C n d A U H) (hAB : ∀ q, B q → A q) : vx_L C n d B U H := by
  obtain ⟨c, k, i, f, a, cell, h1, h2, h3, h4, h5, h6, h7, h8, h9, h10⟩ := h
  exact ⟨c, k, i, f, a, cell, h1, h2, h3, h4, h5, h6, h7, h8, h9, fun z => h10 (hAB _ z)⟩
theorem vx_L.word {C n d : String} {A : Nat → Prop} {s : State} {args : Array Value} (h : vx_L C n d A s s.heap) : (Cond.laysStatic C n d).before args s = true := by
  obtain ⟨c, k, i, f, a, cell, h1, h2, h3, h4, h5, h6, h7, h8, h9, -⟩ := h
  show (Cond.laysStatic C n d).holds args s none s [] = true
  exact Cond.laysStatic_of h1 h2 h3 h4 h5 h6 h7 h8 h9
/-- .. and what it holds: null or some reference -/
def vx_Zq (C n d : String) (A : Nat → Prop) (U : State) (H : Heap) : Prop := va_Zq C n d A U H ∧ vx_L C n d A U H
theorem vx_Zq.moved {C n d : String} {A : Nat → Prop} {u U : State} {H : Heap} (hvm : u.vm.Alike U.vm) (h : vx_Zq C n d A u H) : vx_Zq C n d A U H := ⟨va_Zq.moved hvm h.1, vx_L.moved hvm h.2⟩
theorem vx_Zq.kept {C n d : String} {A : Nat → Prop} {U : State} {H H1 : Heap} (h : vx_Zq C n d A U H) (hq : ∀ a : Nat, a < H.size → ¬ A a → H1[a]? = H[a]?) : vx_Zq C n d A U H1 := ⟨va_Zq.kept h.1 hq, vx_L.kept h.2 hq⟩
theorem vx_Zq.narrow {C n d : String} {A B : Nat → Prop} {U : State} {H : Heap} (h : vx_Zq C n d A U H) (hAB : ∀ q, B q → A q) : vx_Zq C n d B U H := ⟨va_Zq.narrow h.1 hAB, vx_L.narrow h.2 hAB⟩
theorem vx_Zqof {args : Array Value} {s : State} {C n d : String} {A : Nat → Prop} (hl : (Cond.laysStatic C n d).before args s = true) (hini : (Cond.initialized C).before args s = true) (h : (Cond.isRef (.static C n d)).before args s = true) (hA : ∀ a : Nat, a < s.heap.size → ¬ A a) : vx_Zq C n d A s s.heap := by
  refine ⟨va_Zqof hl hini h hA, ?_⟩
  obtain ⟨c, k, i, f, a, cell, h1, h2, h3, h4, h5, h6, h7, h8, h9⟩ := Cond.laysStatic_spec hl
  exact ⟨c, k, i, f, a, cell, h1, h2, h3, h4, h5, h6, h7, h8, h9, hA a (Array.getElem?_eq_some_iff.mp h5).1⟩
theorem vx_isRef {C n d : String} {v : Value} {A : Nat → Prop} {s : State} {args : Array Value} (h : va_Z C n d v A s s.heap) (hv : v.isRef = true) : (Cond.isRef (.static C n d)).before args s = true := by
  obtain ⟨cf, kf, fi, f, a, cell, h1, h2, h3, h4, h5, h6, h7, -⟩ := h
  have he : (Term.static C n d).eval args s none [] s = some v := by
    simp [Term.eval, State.fieldNamed?, h1, h2, h4, h5, h6, h7]
  simp only [Cond.before, Cond.holds, Cond.value, he]
  cases v <;> simp_all [Value.isRef]
theorem vx_isRefq {C n d : String} {A : Nat → Prop} {s : State} {args : Array Value} (h : va_Zq C n d A s s.heap) : (Cond.isRef (.static C n d)).before args s = true := by
  rcases h with h | ⟨t, h⟩
  · exact vx_isRef h rfl
  · exact vx_isRef h rfl
/-- the same frame, seen from here: as if the method were called anew in this heap -/
theorem vx_rebase {T : State} (X : Stand p l e R s m args below meth c T locs cells slots) {R' : Room} (hf : R'.frames ≤ R.frames) (hl : R'.locals ≤ R.locals) (hc : cells + R'.cells ≤ R.cells) (hs : slots + R'.slots ≤ R.slots) :
    Stand p l e R' ((T.setVm s.vm).setFrames (.invoking m args :: below)) m args below meth c T [] 0 0 := by
  have htop : (T.setVm s.vm).topJava?.isSome := X.here.top
  have hF : ((T.setVm s.vm).setFrames (.invoking m args :: below)).frames = .invoking m args :: below := State.frames_setFrames _ (State.cur_lt_of_top htop)
  obtain ⟨g₀, hg0⟩ := Option.isSome_iff_exists.mp htop
  obtain ⟨r, hr⟩ := State.topJava?_eq_some.mp hg0
  have hl9 : e.platform.stackLimits (T.setVm s.vm).me = e.platform.stackLimits s.me := X.limits
  have hb9 : (T.setVm s.vm).me.stackBytes = s.me.stackBytes := X.bytes
  refine ⟨X.admits, X.cas, X.clock, hF, ?_, X.hears, X.method, X.code, X.here, X.tail, X.warmed, ?_, ?_, ?_⟩
  · have h := X.room
    have hU : ((T.setVm s.vm).setFrames (.invoking m args :: below)).localsInUse = s.localsInUse := by
      rw [State.localsInUse_invoking hF (meth := meth) (c := c) X.method X.code, State.localsInUse_invoking X.frames X.method X.code]
    simp only [State.hasRoom, Bool.and_eq_true, decide_eq_true_eq] at h ⊢
    obtain ⟨⟨⟨⟨h1, h2, h3, h4, h5, h6⟩, h7⟩, h8⟩, h9⟩ := h
    rw [X.frames, List.length_cons] at h2 h3
    have q1 := X.heapSize
    have q2 := X.used
    simp only [hF, hU, List.length_cons, State.stackLimits_setFrames, State.stackBytes_setFrames, hl9, hb9]
    refine ⟨⟨⟨⟨by omega, by omega, by omega, by omega, by omega, h6⟩, ?_⟩, ?_⟩, X.book⟩
    · show T.heap.size + R'.cells ≤ e.platform.maxCells
      omega
    · show T.slotsUsed + R'.slots ≤ e.platform.maxSlots
      omega
  · rw [State.stackLimits_setFrames]; rfl
  · rw [State.stackBytes_setFrames]; rfl
  · refine ⟨?_, Nat.le_refl _, Nat.le_refl _, ?_, ?_, fun a c9 h9 => ⟨c9, h9, rfl, rfl, fun _ _ => rfl⟩⟩
    · obtain ⟨t, ht, -⟩ := State.frames_cons hr
      show T.setVm s.vm = { ((T.setVm s.vm).setFrames (.invoking m args :: below)).setFrames (T.setVm s.vm).frames with heap := T.heap, slotsUsed := T.slotsUsed }
      rw [State.setFrames_setFrames, State.setFrames_self ht]
      rfl
    · show T.slotsUsed = T.slotsUsed + ((T.heap.toList.drop T.heap.size).map (·.slots.size)).sum
      rw [List.drop_eq_nil_of_le (Nat.le_of_eq Array.length_toList)]
      rfl
    · show ((T.heap.toList.drop T.heap.size).map (·.slots.size)).sum ≤ 0
      rw [List.drop_eq_nil_of_le (Nat.le_of_eq Array.length_toList)]
      exact Nat.le_refl _
/-- 'throw new E()': new; dup; invokespecial; athrow -/
theorem vx_throw0 {cc : ByteArray} {pc : Nat} (hexec : p.tables.exec = Jvm.exec) (hb : c.code = cc) (hl : l.stackTraces = false) {own cls : String} {names : List String} {ik ic mc ms : Nat} {A : Nat → Prop}
    (hown : s.vm.findClass own = some m.cls) (hcls : Bundle.fit cls = true) (hnames : ∀ n ∈ names, Bundle.fit n = true)
    (hk : (Cond.classLink own ik cls).before args s = true) (hini : (Cond.initialized cls).before args s = true) (hat : ∀ w ∈ vx_at0 own ic cls names, w.before args s = true)
    (hgood : ∀ w ∈ Cond.classLink own ik cls :: Cond.initialized cls :: vx_at0 own ic cls names, vx_ot w = true)
    (hU : vx_Zq Bundle.tN "UNASSIGNED_STACK" Bundle.steD A s s.heap) (hN : vx_Zq Bundle.tN "SUPPRESSED_SENTINEL" Bundle.listD A s s.heap) (hS : va_S A s.heap H locs) (hsize : ls.size = c.maxLocals)
    (d0 : decode cc pc = .ok (.new ik, 3)) (d3 : decode cc (pc + 3) = .ok (.dup, 1)) (d4 : decode cc (pc + 4) = .ok (.invokespecial ic, 3)) (d7 : decode cc (pc + 7) = .ok (.athrow, 1))
    (hout : ∀ x ∈ c.exceptionTable.toList, covers x (pc + 7) = false)
    (hRframes : names.length + 3 < R.frames) (hRlocals : (rest.map fun v => v.category).sum + (13 * (names.length + 1) + 42) ≤ R.locals) (hRcells : cells + 1 ≤ R.cells) (hRslots : slots + 6 ≤ R.slots) (hlocks : meth.locks = false)
    (hx : ∀ t : State, s.vm.Alike t.vm → H.size ≤ t.heap.size → (∀ q : Nat, q < H.size → t.heap[q]? = H[q]?) → XC cls s t)
    (hf : ∀ z ∈ locs, free z.base) (hc : cells + 1 ≤ mc) (hs : slots + 6 ≤ ms) :
    W p l e R s m args below meth c H locs cells slots (vx_MQ below Qc XC args s mc ms free) (F0 m pc ls rest) := by
  intro T hT X
  have htr : e.platform.stackTraces = false := (show e.platform.stackTraces = l.stackTraces by rw [X.admits.platform]).trans hl
  have Y := vx_rebase X (R' := { frames := R.frames, locals := R.locals, cells := 1, slots := 6 }) (Nat.le_refl _) (Nat.le_refl _) hRcells hRslots
  obtain ⟨s', hA⟩ : ∃ z, z = (T.setVm s.vm).setFrames (.invoking m args :: below) := ⟨_, rfl⟩
  rw [← hA] at Y
  have hvm : s'.vm = s.vm := by rw [hA]; rfl
  have hhp : s'.heap = H := by rw [hA]; exact hT
  have hW0 : s.WarmedH s'.vm := by rw [hvm]; exact State.WarmedH.refl s
  have hat' : ∀ w ∈ vx_at0 own ic cls names, w.before args s' = true := fun w hw => vx_ot_at hW0 hvm.symm (hgood w (List.mem_cons_of_mem _ (List.mem_cons_of_mem _ hw))) (hat w hw)
  have hk' : (Cond.classLink own ik cls).before args s' = true := vx_ot_at hW0 hvm.symm (hgood _ List.mem_cons_self) hk
  have hini' : (Cond.initialized cls).before args s' = true := vx_ot_at hW0 hvm.symm (hgood _ (List.mem_cons_of_mem _ List.mem_cons_self)) hini
  have hU' : vx_Zq Bundle.tN "UNASSIGNED_STACK" Bundle.steD A s' s'.heap := by rw [hhp]; exact vx_Zq.moved hW0.alike (hU.kept hS.2.1)
  have hN' : vx_Zq Bundle.tN "SUPPRESSED_SENTINEL" Bundle.listD A s' s'.heap := by rw [hhp]; exact vx_Zq.moved hW0.alike (hN.kept hS.2.1)
  have h : ∀ w ∈ Bundle.ownAtoms0 own ic cls names, w.before args s' = true := vx_own hat' (vx_isRefq hU'.1) (vx_isRefq hN'.1) hU'.2.word hN'.2.word
  have hown' : s'.vm.findClass own = some m.cls := by rw [hvm]; exact hown
  have hins : (Cond.instantiable cls 6).before args s' = true := h _ (by simp [Bundle.ownAtoms0])
  obtain ⟨vm₁, cX, kX, hfX, hkX, -, -, X₁, st1⟩ := Y.newCold hexec (own := own) (C := cls) (index := ik) (n := 6) hown' hk' hins hini'
    (g := F0 m pc ls rest) rfl (by rw [hb]; exact d0) (Nat.le_refl _) (Nat.le_refl _)
  generalize hT1 : (T.setVm vm₁).pushCell { cls := cX, slots := kX.instanceTypes.map defaultValue, vm := .none } = T1 at X₁ st1
  have hcat : (Value.ref T.heap.size).category = 1 := rfl
  have hcellA : T1.heap[T.heap.size]? = some (freshCell cX kX) := by rw [← hT1]; exact State.heap_pushCell_size _ _
  have d3' : decode c.code (pc + 3) = .ok (.dup, 1) := by rw [hb]; exact d3
  obtain ⟨U, hsteps, hrun, hend, hW, hsame, ce, hce, hO⟩ := X₁.ctorThrow0 hexec htr (own := own) (cls := cls) (names := names) (ic := ic) hown' hcls hnames h (fun x hx => nomatch hx) hfX hkX hcellA (by rw [hhp, hT]; exact Nat.le_refl _)
    (g := { method := m, pc := pc + 4, locals := ls, stack := .ref T.heap.size :: .ref T.heap.size :: rest, locked := none }) rfl hsize rfl rfl (rest := rest) rfl
    (by rw [hb]; exact d4) (by rw [hb]; exact d7) hout hRframes (by simp only [List.map_cons, List.sum_cons, hcat]; omega) hlocks
  obtain ⟨f1, f2⟩ := vx_frame hsame
  rw [hhp] at f1 f2
  have hWs : s.WarmedH U.vm := State.WarmedH.trans hW0 hW
  have hcl : s.vm.findClass cls = some ce.cls := by
    have h9 := hO.cls
    rw [hvm] at h9
    exact h9
  have hall : s.sameButNew ({ U with vm := s.vm } : State) locs mc ms := by
    subst hA
    obtain ⟨e1, e2⟩ := hsame
    rw [State.setFrames_setFrames] at e1
    have h2 : (T.setVm s.vm).sameButNew ({ U with vm := s.vm } : State) [] (0 + 1) (0 + 6) := ⟨e1, e2⟩
    have h3 := X.same.trans h2
    rw [List.append_nil] at h3
    exact h3.mono hc hs
  refine ⟨U, ?_, .threw T.heap.size, hrun, hend, Or.inr ⟨T.heap.size, rfl, cls, ce, locs, hx U hWs.alike f1 (fun q hq => f2 q hq (fun z hz => nomatch hz)), hce, hO.vm, hcl, hWs, hall, hf⟩⟩
  refine st1 _ ?_
  show Steps p.tables e below (T1.setTop { method := m, pc := pc + 3, locals := ls, stack := .ref T.heap.size :: rest, locked := none }) _
  jvm_step X₁.here [X₁.here.top, hexec, d3', Value.category]
  exact hsteps
/-- 'throw new E("text")': new; dup; ldc; invokespecial; athrow -/
theorem vx_throwS {cc : ByteArray} {pc : Nat} (hexec : p.tables.exec = Jvm.exec) (hb : c.code = cc) (hl : l.stackTraces = false) {own cls text : String} {names : List String} {ik is ic mc ms sa : Nat} {A : Nat → Prop}
    (hown : s.vm.findClass own = some m.cls) (hcls : Bundle.fit cls = true) (hnames : ∀ n ∈ names, Bundle.fit n = true)
    (hk : (Cond.classLink own ik cls).before args s = true) (hini : (Cond.initialized cls).before args s = true) (hstr : vk_R own is text sa s) (hat : ∀ w ∈ vx_atS own ic cls names, w.before args s = true)
    (hgood : ∀ w ∈ Cond.classLink own ik cls :: Cond.initialized cls :: vx_atS own ic cls names, vx_ot w = true)
    (hU : vx_Zq Bundle.tN "UNASSIGNED_STACK" Bundle.steD A s s.heap) (hN : vx_Zq Bundle.tN "SUPPRESSED_SENTINEL" Bundle.listD A s s.heap) (hS : va_S A s.heap H locs) (hsize : ls.size = c.maxLocals)
    (d0 : decode cc pc = .ok (.new ik, 3)) (d3 : decode cc (pc + 3) = .ok (.dup, 1)) (d4 : decode cc (pc + 4) = .ok (.ldc is, 2)) (d6 : decode cc (pc + 6) = .ok (.invokespecial ic, 3)) (d9 : decode cc (pc + 9) = .ok (.athrow, 1))
    (hout : ∀ x ∈ c.exceptionTable.toList, covers x (pc + 9) = false)
    (hRframes : names.length + 3 < R.frames) (hRlocals : (rest.map fun v => v.category).sum + (13 * (names.length + 1) + 43) ≤ R.locals) (hRcells : cells + 1 ≤ R.cells) (hRslots : slots + 6 ≤ R.slots) (hlocks : meth.locks = false)
    (hx : ∀ t : State, s.vm.Alike t.vm → H.size ≤ t.heap.size → (∀ q : Nat, q < H.size → t.heap[q]? = H[q]?) → XC cls s t)
    (hf : ∀ z ∈ locs, free z.base) (hc : cells + 1 ≤ mc) (hs : slots + 6 ≤ ms) :
    W p l e R s m args below meth c H locs cells slots (vx_MQ below Qc XC args s mc ms free) (F0 m pc ls rest) := by
  intro T hT X
  have htr : e.platform.stackTraces = false := (show e.platform.stackTraces = l.stackTraces by rw [X.admits.platform]).trans hl
  have Y := vx_rebase X (R' := { frames := R.frames, locals := R.locals, cells := 1, slots := 6 }) (Nat.le_refl _) (Nat.le_refl _) hRcells hRslots
  obtain ⟨s', hA⟩ : ∃ z, z = (T.setVm s.vm).setFrames (.invoking m args :: below) := ⟨_, rfl⟩
  rw [← hA] at Y
  have hvm : s'.vm = s.vm := by rw [hA]; rfl
  have hhp : s'.heap = H := by rw [hA]; exact hT
  have hW0 : s.WarmedH s'.vm := by rw [hvm]; exact State.WarmedH.refl s
  have hat' : ∀ w ∈ vx_atS own ic cls names, w.before args s' = true := fun w hw => vx_ot_at hW0 hvm.symm (hgood w (List.mem_cons_of_mem _ (List.mem_cons_of_mem _ hw))) (hat w hw)
  have hk' : (Cond.classLink own ik cls).before args s' = true := vx_ot_at hW0 hvm.symm (hgood _ List.mem_cons_self) hk
  have hini' : (Cond.initialized cls).before args s' = true := vx_ot_at hW0 hvm.symm (hgood _ (List.mem_cons_of_mem _ List.mem_cons_self)) hini
  have hU' : vx_Zq Bundle.tN "UNASSIGNED_STACK" Bundle.steD A s' s'.heap := by rw [hhp]; exact vx_Zq.moved hW0.alike (hU.kept hS.2.1)
  have hN' : vx_Zq Bundle.tN "SUPPRESSED_SENTINEL" Bundle.listD A s' s'.heap := by rw [hhp]; exact vx_Zq.moved hW0.alike (hN.kept hS.2.1)
  have h : ∀ w ∈ Bundle.ownAtoms own ic cls names, w.before args s' = true := vx_own hat' (vx_isRefq hU'.1) (vx_isRefq hN'.1) hU'.2.word hN'.2.word
  have hown' : s'.vm.findClass own = some m.cls := by rw [hvm]; exact hown
  have hins : (Cond.instantiable cls 6).before args s' = true := h _ (by simp [Bundle.ownAtoms])
  obtain ⟨vm₁, cX, kX, hfX, hkX, -, -, X₁, st1⟩ := Y.newCold hexec (own := own) (C := cls) (index := ik) (n := 6) hown' hk' hins hini'
    (g := F0 m pc ls rest) rfl (by rw [hb]; exact d0) (Nat.le_refl _) (Nat.le_refl _)
  generalize hT1 : (T.setVm vm₁).pushCell { cls := cX, slots := kX.instanceTypes.map defaultValue, vm := .none } = T1 at X₁ st1
  have hcat : (Value.ref T.heap.size).category = 1 := rfl
  have hcellA : T1.heap[T.heap.size]? = some (freshCell cX kX) := by rw [← hT1]; exact State.heap_pushCell_size _ _
  have d3' : decode c.code (pc + 3) = .ok (.dup, 1) := by rw [hb]; exact d3
  have d4' : decode c.code (pc + 4) = .ok (.ldc is, 2) := by rw [hb]; exact d4
  have hstr' : vk_R own is text sa s' := vk_R.warm hW0 hstr
  obtain ⟨U, hsteps, hrun, hend, hW, hsame, ce, hce, hO⟩ := X₁.ctorThrowS hexec htr (own := own) (cls := cls) (names := names) (ic := ic) hown' hcls hnames h (fun x hx => nomatch hx) hfX hkX hcellA (by rw [hhp, hT]; exact Nat.le_refl _) (msg := .ref sa) rfl
    (g := { method := m, pc := pc + 6, locals := ls, stack := .ref sa :: .ref T.heap.size :: .ref T.heap.size :: rest, locked := none }) rfl hsize rfl rfl (rest := rest) rfl
    (by rw [hb]; exact d6) (by rw [hb]; exact d9) hout hRframes (by simp only [List.map_cons, List.sum_cons, hcat]; omega) hlocks
  obtain ⟨f1, f2⟩ := vx_frame hsame
  rw [hhp] at f1 f2
  have hWs : s.WarmedH U.vm := State.WarmedH.trans hW0 hW
  have hcl : s.vm.findClass cls = some ce.cls := by
    have h9 := hO.cls
    rw [hvm] at h9
    exact h9
  have hall : s.sameButNew ({ U with vm := s.vm } : State) locs mc ms := by
    subst hA
    obtain ⟨e1, e2⟩ := hsame
    rw [State.setFrames_setFrames] at e1
    have h2 : (T.setVm s.vm).sameButNew ({ U with vm := s.vm } : State) [] (0 + 1) (0 + 6) := ⟨e1, e2⟩
    have h3 := X.same.trans h2
    rw [List.append_nil] at h3
    exact h3.mono hc hs
  refine ⟨U, ?_, .threw T.heap.size, hrun, hend, Or.inr ⟨T.heap.size, rfl, cls, ce, locs, hx U hWs.alike f1 (fun q hq => f2 q hq (fun z hz => nomatch hz)), hce, hO.vm, hcl, hWs, hall, hf⟩⟩
  refine st1 _ ?_
  show Steps p.tables e below (T1.setTop { method := m, pc := pc + 3, locals := ls, stack := .ref T.heap.size :: rest, locked := none }) _
  jvm_step X₁.here [X₁.here.top, hexec, d3', Value.category]
  exact X₁.ldcString hexec (own := own) (text := text) (index := is) (a := sa) hown' hstr'.1 hstr'.2
    (g := { method := m, pc := pc + 4, locals := ls, stack := .ref T.heap.size :: .ref T.heap.size :: rest, locked := none }) rfl d4' _ hsteps
/-- 'throw new E("text")', the text by a wide index -/
theorem vx_throwSW {cc : ByteArray} {pc : Nat} (hexec : p.tables.exec = Jvm.exec) (hb : c.code = cc) (hl : l.stackTraces = false) {own cls text : String} {names : List String} {ik is ic mc ms sa : Nat} {A : Nat → Prop}
    (hown : s.vm.findClass own = some m.cls) (hcls : Bundle.fit cls = true) (hnames : ∀ n ∈ names, Bundle.fit n = true)
    (hk : (Cond.classLink own ik cls).before args s = true) (hini : (Cond.initialized cls).before args s = true) (hstr : vk_R own is text sa s) (hat : ∀ w ∈ vx_atS own ic cls names, w.before args s = true)
    (hgood : ∀ w ∈ Cond.classLink own ik cls :: Cond.initialized cls :: vx_atS own ic cls names, vx_ot w = true)
    (hU : vx_Zq Bundle.tN "UNASSIGNED_STACK" Bundle.steD A s s.heap) (hN : vx_Zq Bundle.tN "SUPPRESSED_SENTINEL" Bundle.listD A s s.heap) (hS : va_S A s.heap H locs) (hsize : ls.size = c.maxLocals)
    (d0 : decode cc pc = .ok (.new ik, 3)) (d3 : decode cc (pc + 3) = .ok (.dup, 1)) (d4 : decode cc (pc + 4) = .ok (.ldc_w is, 3)) (d7 : decode cc (pc + 7) = .ok (.invokespecial ic, 3)) (d10 : decode cc (pc + 10) = .ok (.athrow, 1))
    (hout : ∀ x ∈ c.exceptionTable.toList, covers x (pc + 10) = false)
    (hRframes : names.length + 3 < R.frames) (hRlocals : (rest.map fun v => v.category).sum + (13 * (names.length + 1) + 43) ≤ R.locals) (hRcells : cells + 1 ≤ R.cells) (hRslots : slots + 6 ≤ R.slots) (hlocks : meth.locks = false)
    (hx : ∀ t : State, s.vm.Alike t.vm → H.size ≤ t.heap.size → (∀ q : Nat, q < H.size → t.heap[q]? = H[q]?) → XC cls s t)
    (hf : ∀ z ∈ locs, free z.base) (hc : cells + 1 ≤ mc) (hs : slots + 6 ≤ ms) :
    W p l e R s m args below meth c H locs cells slots (vx_MQ below Qc XC args s mc ms free) (F0 m pc ls rest) := by
  intro T hT X
  have htr : e.platform.stackTraces = false := (show e.platform.stackTraces = l.stackTraces by rw [X.admits.platform]).trans hl
  have Y := vx_rebase X (R' := { frames := R.frames, locals := R.locals, cells := 1, slots := 6 }) (Nat.le_refl _) (Nat.le_refl _) hRcells hRslots
  obtain ⟨s', hA⟩ : ∃ z, z = (T.setVm s.vm).setFrames (.invoking m args :: below) := ⟨_, rfl⟩
  rw [← hA] at Y
  have hvm : s'.vm = s.vm := by rw [hA]; rfl
  have hhp : s'.heap = H := by rw [hA]; exact hT
  have hW0 : s.WarmedH s'.vm := by rw [hvm]; exact State.WarmedH.refl s
  have hat' : ∀ w ∈ vx_atS own ic cls names, w.before args s' = true := fun w hw => vx_ot_at hW0 hvm.symm (hgood w (List.mem_cons_of_mem _ (List.mem_cons_of_mem _ hw))) (hat w hw)
  have hk' : (Cond.classLink own ik cls).before args s' = true := vx_ot_at hW0 hvm.symm (hgood _ List.mem_cons_self) hk
  have hini' : (Cond.initialized cls).before args s' = true := vx_ot_at hW0 hvm.symm (hgood _ (List.mem_cons_of_mem _ List.mem_cons_self)) hini
  have hU' : vx_Zq Bundle.tN "UNASSIGNED_STACK" Bundle.steD A s' s'.heap := by rw [hhp]; exact vx_Zq.moved hW0.alike (hU.kept hS.2.1)
  have hN' : vx_Zq Bundle.tN "SUPPRESSED_SENTINEL" Bundle.listD A s' s'.heap := by rw [hhp]; exact vx_Zq.moved hW0.alike (hN.kept hS.2.1)
  have h : ∀ w ∈ Bundle.ownAtoms own ic cls names, w.before args s' = true := vx_own hat' (vx_isRefq hU'.1) (vx_isRefq hN'.1) hU'.2.word hN'.2.word
  have hown' : s'.vm.findClass own = some m.cls := by rw [hvm]; exact hown
  have hins : (Cond.instantiable cls 6).before args s' = true := h _ (by simp [Bundle.ownAtoms])
  obtain ⟨vm₁, cX, kX, hfX, hkX, -, -, X₁, st1⟩ := Y.newCold hexec (own := own) (C := cls) (index := ik) (n := 6) hown' hk' hins hini'
    (g := F0 m pc ls rest) rfl (by rw [hb]; exact d0) (Nat.le_refl _) (Nat.le_refl _)
  generalize hT1 : (T.setVm vm₁).pushCell { cls := cX, slots := kX.instanceTypes.map defaultValue, vm := .none } = T1 at X₁ st1
  have hcat : (Value.ref T.heap.size).category = 1 := rfl
  have hcellA : T1.heap[T.heap.size]? = some (freshCell cX kX) := by rw [← hT1]; exact State.heap_pushCell_size _ _
  have d3' : decode c.code (pc + 3) = .ok (.dup, 1) := by rw [hb]; exact d3
  have d4' : decode c.code (pc + 4) = .ok (.ldc_w is, 3) := by rw [hb]; exact d4
  have hstr' : vk_R own is text sa s' := vk_R.warm hW0 hstr
  obtain ⟨U, hsteps, hrun, hend, hW, hsame, ce, hce, hO⟩ := X₁.ctorThrowS hexec htr (own := own) (cls := cls) (names := names) (ic := ic) hown' hcls hnames h (fun x hx => nomatch hx) hfX hkX hcellA (by rw [hhp, hT]; exact Nat.le_refl _) (msg := .ref sa) rfl
    (g := { method := m, pc := pc + 7, locals := ls, stack := .ref sa :: .ref T.heap.size :: .ref T.heap.size :: rest, locked := none }) rfl hsize rfl rfl (rest := rest) rfl
    (by rw [hb]; exact d7) (by rw [hb]; exact d10) hout hRframes (by simp only [List.map_cons, List.sum_cons, hcat]; omega) hlocks
  obtain ⟨f1, f2⟩ := vx_frame hsame
  rw [hhp] at f1 f2
  have hWs : s.WarmedH U.vm := State.WarmedH.trans hW0 hW
  have hcl : s.vm.findClass cls = some ce.cls := by
    have h9 := hO.cls
    rw [hvm] at h9
    exact h9
  have hall : s.sameButNew ({ U with vm := s.vm } : State) locs mc ms := by
    subst hA
    obtain ⟨e1, e2⟩ := hsame
    rw [State.setFrames_setFrames] at e1
    have h2 : (T.setVm s.vm).sameButNew ({ U with vm := s.vm } : State) [] (0 + 1) (0 + 6) := ⟨e1, e2⟩
    have h3 := X.same.trans h2
    rw [List.append_nil] at h3
    exact h3.mono hc hs
  refine ⟨U, ?_, .threw T.heap.size, hrun, hend, Or.inr ⟨T.heap.size, rfl, cls, ce, locs, hx U hWs.alike f1 (fun q hq => f2 q hq (fun z hz => nomatch hz)), hce, hO.vm, hcl, hWs, hall, hf⟩⟩
  refine st1 _ ?_
  show Steps p.tables e below (T1.setTop { method := m, pc := pc + 3, locals := ls, stack := .ref T.heap.size :: rest, locked := none }) _
  jvm_step X₁.here [X₁.here.top, hexec, d3', Value.category]
  exact X₁.ldcStringW hexec (own := own) (text := text) (index := is) (a := sa) hown' hstr'.1 hstr'.2
    (g := { method := m, pc := pc + 4, locals := ls, stack := .ref T.heap.size :: .ref T.heap.size :: rest, locked := none }) rfl d4' _ hsteps
end Ends
section Bodies
variable {l : Launch}
theorem vx_ofW {y : MethodName} {ws ws' : List Cond} {rm : Room} {Pc : Array Value → State → Prop} {Qc : Array Value → State → Outcome → State → Prop} {XC : String → State → State → Prop} {mc ms : Nat} {free : Addr → Prop} {cc : ByteArray} {maxL : Nat} {ret : Option FieldType}
    (hy : plainName y.cls = true) (hw : ws = Cond.code y cc maxL ret :: ws')
    (body : ∀ p e s m args below meth c s₁, BodyLoose p l y (headSpec ws rm) cc maxL ret e s m args below meth c s₁ → c.maxLocals = maxL → (∀ x ∈ c.exceptionTable.toList, False) → Pc args s →
      W p l e (headSpec ws rm).room s m args below meth c s.heap [] 0 0 (vx_MQ below Qc XC args s mc ms free) (entryFrame m args maxL)) : vx_Met l y ws rm Pc Qc XC mc ms free := by
  refine MetFree.of_bodyS (code := cc) (maxLocals := maxL) (ret := ret) hy ?_ ?_
  · intro args s m h hn
    obtain ⟨meth, c, h1, h2, h3, h4, h5, h6, -, -⟩ := Cond.code_spec hn (atoms_spec (ws := ws) h _ (by rw [hw]; exact List.mem_cons_self))
    exact ⟨meth, c, h1, h2, h3, h4, h5, h6⟩
  · intro p e s m args below meth c s₁ B hml hP _
    have hh0 : s₁.heap = s.heap := by rw [B.state]; rfl
    have ht : ∀ x ∈ c.exceptionTable.toList, False := by
      obtain ⟨meth9, c9, h1, h2, -, -, -, -, h7, -⟩ := Cond.code_spec B.named (atoms_spec (ws := ws) B.pre _ (by rw [hw]; exact List.mem_cons_self))
      cases Option.some.inj (h1.symm.trans B.method)
      cases Option.some.inj (h2.symm.trans (Stand.of_body B).code)
      intro x hx
      rw [Array.isEmpty_iff.mp h7] at hx
      cases hx
    obtain ⟨t, a1, o, b1, b2, b3⟩ := body p e s m args below meth c s₁ B hml ht hP s₁ hh0 (Stand.of_body B)
    exact ⟨t, o, a1, b1, b2, b3⟩
/-- the table of a body with handlers -/
theorem vx_table {p : Program} {x y : MethodName} {S : Spec} {cc bytes : ByteArray} {maxL maxL' : Nat} {ret ret' : Option FieldType} {e : Env} {s s₁ : State} {m : MethodId} {args : Array Value} {below : List Frame} {meth : Method} {c : Code} {hh : List (Nat × Nat × Nat × Nat)}
    (B : BodyLoose p l y S cc maxL ret e s m args below meth c s₁) (h : (Cond.codeWith y bytes maxL' ret' hh).before args s = true) : c.exceptionTable.toList = tableOf hh := by
  obtain ⟨m9, meth9, c9, hn9, h1, h2, -, -, h6, -⟩ := Cond.codeWith_spec h
  cases Option.some.inj (hn9.symm.trans B.named)
  cases Option.some.inj (h1.symm.trans B.method)
  cases Option.some.inj (h2.symm.trans (Stand.of_body B).code)
  rw [← h6, table_eq]
end Bodies
end VXA
/-! ===== END ===== -/
/-! ===== BEGIN a static call of a method with an exception table ===== -/
section VXS
variable {p : Program} {l : Launch} {e : Env} {R : Room} {s : State} {m : MethodId} {args : Array Value} {below : List Frame} {meth : Method} {c : Code} {T : State} {H : Heap} {locs : List Loc} {cells slots : Nat}
abbrev vx_CSW (R : Room) (s : State) (args : Array Value) (own : String) (index : Nat) (y : MethodName) (bytes : ByteArray) (maxL : Nat) (ret : Option FieldType) (hh : List (Nat × Nat × Nat × Nat)) (ws : List Cond) (rm : Room) (mc ms n : Nat) : Prop :=
  (rm.cells = mc ∧ rm.slots = ms ∧ rm.frames + 1 ≤ R.frames ∧ 8 + (maxL + 11) + rm.locals ≤ R.locals ∧ (∀ w ∈ ws, ∀ (a' : Array Value) (U : State), s.WarmedH U.vm → w.before a' U = true) ∧ Cond.codeWith y bytes maxL ret hh ∈ ws) ∧
  (Cond.codeWith y bytes maxL ret hh).before args s = true ∧ (Cond.initialized y.cls).before args s = true ∧ (y.cls ≠ "java/lang/invoke/MethodHandle" ∧ y.cls ≠ "java/lang/invoke/VarHandle") ∧
  (∀ sig, parseMethodDescriptor y.desc = some sig → n = sig.parameters.length) ∧ (Cond.methodLink own index y).before args s = true ∧ (Cond.static y).before args s = true
theorem vx_cwSW {own : String} {index maxL mc ms : Nat} {y : MethodName} {bytes : ByteArray} {ret : Option FieldType} {hh : List (Nat × Nat × Nat × Nat)} {Ts ws ws' : List Cond} {rm : Room} (n : Nat) (ht : ∀ w ∈ Ts, w.before args s = true) (hT : GoodIn Ts (va_wsS own index y ws)) (hw : ws = Cond.codeWith y bytes maxL ret hh :: ws') (hrc : rm.cells = mc) (hrs : rm.slots = ms)
    (hd : y.cls ≠ "java/lang/invoke/MethodHandle" ∧ y.cls ≠ "java/lang/invoke/VarHandle" ∧ (parseMethodDescriptor y.desc).map (fun d => d.parameters.length) = some n) (hR : rm.frames + 1 ≤ R.frames ∧ 8 + (maxL + 11) + rm.locals ≤ R.locals) :
    vx_CSW R s args own index y bytes maxL ret hh ws rm mc ms n := by
  have ok : ∀ w ∈ va_wsS own index y ws, w.before args s = true := fun w h => ht w (hT w h).1
  have hG : GoodIn Ts ws := fun w h => hT w (by unfold va_wsS; exact List.mem_append_right _ h)
  have hc : Cond.codeWith y bytes maxL ret hh ∈ ws := by rw [hw]; exact List.mem_cons_self
  refine ⟨⟨hrc, hrs, hR.1, hR.2, pay_in ht hG, hc⟩, ht _ (hG _ hc).1, ok _ (by simp [va_wsS]), ⟨hd.1, hd.2.1⟩, fun sig h => ?_, ok _ (by simp [va_wsS]), ok _ (by simp [va_wsS])⟩
  have h2 := hd.2.2
  rw [h] at h2
  exact (Option.some.inj h2).symm
theorem vx_callSW (X : Stand p l e R s m args below meth c T locs cells slots) (hexec : p.tables.exec = Jvm.exec) {own : String} {index : Nat} {y : MethodName} {bytes : ByteArray} {maxL : Nat} {ret : Option FieldType} {hh : List (Nat × Nat × Nat × Nat)}
    (hown : s.vm.findClass own = some m.cls) (hlink : (Cond.methodLink own index y).before args s = true) (hstat : (Cond.static y).before args s = true) (hinit : (Cond.initialized y.cls).before args s = true)
    (hcode : (Cond.codeWith y bytes maxL ret hh).before args s = true) (hy : y.cls ≠ "java/lang/invoke/MethodHandle" ∧ y.cls ≠ "java/lang/invoke/VarHandle")
    {W9 : Nat} {Pre : Pt → Array Value → Prop} {Post : Pt → Array Value → Option Value → Pt → Prop} (hK : Back l R p e below s args y 3 W9 Pre Post)
    {g : JFrame} (hg : g.method = m) (hsize : g.locals.size = c.maxLocals) {argsL rest : List Value} (hlen : ∀ sig, parseMethodDescriptor y.desc = some sig → argsL.length = sig.parameters.length)
    (hstack : g.stack = argsL.reverse ++ rest) (hW : 2 * g.monitorRoom + (rest.map fun v => v.category).sum ≤ W9) (hdg : decode c.code g.pc = .ok (.invokestatic index, 3))
    (hpre : ∀ vm₁, s.WarmedH vm₁ → Pre ⟨T.setVm vm₁, locs, cells, slots⟩ argsL.toArray) :
    ∃ (v : Option Value) (vm₁ : Vm) (B : Pt), s.WarmedH vm₁ ∧ Stand p l e R s m args below meth c B.U B.locs B.cells B.slots ∧ Post ⟨T.setVm vm₁, locs, cells, slots⟩ argsL.toArray v B ∧
      ∀ target, Steps p.tables e below (B.U.setTop { g with pc := g.pc + 3, stack := v.toList ++ rest }) target → Steps p.tables e below (T.setTop g) target := by
  obtain ⟨mk, methM, cM, hnamed, hmethM, -, -, -, -, -, -, hsigM⟩ := Cond.codeWith_spec hcode
  have hstatic : methM.isStatic = true := Cond.static_spec hnamed hmethM hstat
  obtain ⟨kP, hkP, -⟩ := className_of_methodNamed hnamed
  have hinitP : kP.init = .initialized := Cond.initialized_spec (findClass_of_methodNamed hnamed) hkP hinit
  obtain ⟨vm₁, X₁, hstep₁⟩ := X.invokestatic hexec hown hlink hnamed hmethM hstatic hkP hinitP hy (g := g) hg (argsL := argsL) (rest := rest) (hlen _ hsigM) hstack hdg
  obtain ⟨v, B, X', hpost, hsteps⟩ := hK m meth c ⟨T.setVm vm₁, locs, cells, slots⟩ { g with stack := rest } (.invokestatic index) mk argsL.toArray X₁ hg hsize hdg hW (X₁.named hnamed) (hpre vm₁ X₁.warmed)
  exact ⟨v, vm₁, B, X₁.warmed, X', hpost, fun target h => hstep₁ _ fun acts => by rw [doInvoke_state]; exact hsteps.trans h⟩
theorem vx_runSW {y : MethodName} {bytes cc : ByteArray} {maxL nL mc ms n index : Nat} {ret : Option FieldType} {hh : List (Nat × Nat × Nat × Nat)} {ws : List Cond} {rm : Room} {Pc : Array Value → State → Prop} {Qc : Array Value → State → Outcome → State → Prop} {free : Addr → Prop} {Ts : List Cond} {own : String} {As rest : List Value} {g : JFrame}
    (S : CallFix p m c cc nL s args Ts own) (hM : Met l y ws rm Pc Qc mc ms free) (cw : vx_CSW R s args own index y bytes maxL ret hh ws rm mc ms n) (hp : PreS s H Pc As)
    (hg : g.method = m) (hn : As.length = n) (hsize : g.locals.size = nL) (hstack : g.stack = As.reverse ++ rest) (hW : 2 * g.monitorRoom + (rest.map fun v => v.category).sum ≤ 8) (hdg : decode cc g.pc = .ok (.invokestatic index, 3)) (hf : cells + mc ≤ R.cells ∧ slots + ms ≤ R.slots) :
    va_Run p l e R s m args below meth c H locs cells slots mc ms g rest (Qc As.toArray) (free) := by
  obtain ⟨⟨hrc, hrs, hfr, hlo, hws, hcw⟩, hcode, hini, hy, hlen, hl, hstt⟩ := cw
  have hK : Back l R p e below s args y 3 8 (PreOf R mc ms Pc) (PostOf Qc mc ms free) := va_backW (hh := hh) (bytes := bytes) (maxL := maxL) (ret := ret) hM hp.1 hrc hrs hfr hlo hws hcw (fun a' U hW => word_at hW (Or.inl (by first | rfl | simp [Cond.onTables, Cond.keeps, Cond.steady])) hini)
  obtain ⟨hx, hb, hml, ho, -⟩ := S
  intro T hT X
  obtain ⟨v, vm₁, ⟨U', l2, c2, s2⟩, hW₁, X', ⟨g', mk, t, L, e1, e2, hq, h1, hL, h2, h3⟩, st⟩ := vx_callSW X hx (hh := hh) (bytes := bytes) (maxL := maxL) (ret := ret) ho hl hstt hini hcode hy hK hg (hsize.trans hml.symm) (argsL := As) (rest := rest) (fun sig h => hn.trans (hlen sig h)) hstack hW (by rw [hb]; exact hdg)
    (fun vm₁ hW₁ => ⟨hf.1, hf.2, hp.2 (T.setVm vm₁) hT hW₁⟩)
  dsimp only [Pt.U, Pt.locs, Pt.cells, Pt.slots] at X' e1 e2 h1 h2 h3 st
  subst h1; subst h2; subst h3
  exact ⟨v, (T.setVm vm₁).calling g' mk As.toArray, t, U', L, hT, X', hL, e1, e2, hq, st⟩
/-- not caught here, past rows that name other classes: it goes on to the caller -/
theorem vx_outP {p : Program} {l : Launch} {e : Env} {R : Room} {s : State} {m : MethodId} {args : Array Value} {below : List Frame} {meth : Method} {c : Code} {H : Heap} {locs : List Loc} {cells slots : Nat} {free : Addr → Prop} {ls : Array Slot} {rest : List Value} {Qc : Array Value → State → Outcome → State → Prop} {XC : String → State → State → Prop}
    {pc : Nat} {own E : String} {ce : Cell} {q : Addr} {mc ms : Nat} (hown : s.vm.findClass own = some m.cls) (hlocks : meth.locks = false)
    (hpass : ∀ z ∈ c.exceptionTable.toList, covers z pc = false ∨ (z.catchType ≠ 0 ∧ ∃ nm : String, (Cond.classLink own z.catchType nm).before args s = true ∧ va_Nc E nm s)) (hcell : H[q]? = some ce) (hv : ce.vm = .none) (hcl : s.vm.findClass E = some ce.cls)
    (hx : ∀ t : State, t.heap = H → s.vm.Alike t.vm → XC E s t) (hf : ∀ z ∈ locs, free z.base) (hc : cells ≤ mc) (hs : slots ≤ ms) :
    vx_W p l e R s m args below meth c H locs cells slots (vx_MQ below Qc XC args s mc ms free) (F0 m pc ls rest) q := by
  intro T hT X
  have hpl : e.platform.magicAccessors = ({} : Platform).magicAccessors := by rw [X.admits.platform]
  obtain ⟨vm', hW', X', st⟩ := X.outThrough hlocks q (g := F0 m pc ls rest) rfl rfl rfl (cell := ce) (by rw [hT]; exact hcell) (by rw [hv]; rfl)
    (by obtain ⟨k9, h9, -⟩ := Vm.findClass_spec hcl; exact ⟨k9, h9⟩) (fun z hz => by
      rcases hpass z hz with h | ⟨hz0, nm, hl1, hn1⟩
      · exact Or.inl h
      · obtain ⟨c6, hc6, hcl6⟩ := Cond.classLink_spec hown hl1 e.platform hpl
        obtain ⟨a8, b8, h1, h2, h3⟩ := hn1
        cases Option.some.inj (h1.symm.trans hcl)
        cases Option.some.inj (h2.symm.trans hc6)
        exact Or.inr ⟨hz0, _, hcl6, h3⟩)
  obtain ⟨g₀, hfr⟩ := X'.frames_eq
  have hcell9 : ((T.setVm vm').setFrames (.throwing q :: below)).heap[q]? = some ce := by
    show T.heap[q]? = some ce
    rw [hT]; exact hcell
  have hend : Ended ((T.setVm vm').setFrames (.throwing q :: below)) below (.threw q) := State.frames_setFrames _ (State.cur_lt_of_frames hfr)
  refine ⟨(T.setVm vm').setFrames (.throwing q :: below), ?_, .threw q, X'.here.running, hend, Or.inr ⟨q, rfl, E, ce, locs, hx _ hT (X'.ends _).1.alike, hcell9, hv, hcl, (X'.ends _).1, (X'.ends _).2.mono hc hs, hf⟩⟩
  rw [X.pushThrowing_eq]
  exact st
/-- a thing of a world lies in the heap -/
theorem vx_lt {D : va_G} {cl : List vw_C} {ws : va_W} {H1 : Heap} (h : va_P D cl ws H1) {k : Nat} {q : Nat × va_E} (hk : ws[k]? = some q) : q.1 < H1.size := (h k q hk).lt
end VXS
/-! ===== END ===== -/
/-! ===== BEGIN methods with a table of their own: called by a name, returning or throwing ===== -/
section VXH
/-! vx_backW, vx_callVX, vx_callSX, vx_callVW, vx_runVW, vx_runVX, vx_runSX, vx_ofWH follow the same proofs as their sisters above (Free/Laws.lean, Shelf42/LK1.lean); vx_outP calls Shelf42/NT130.lean (outThrough). -/
section
variable {l : Launch} {R : Room} {p : Program} {e : Env} {below : List Frame} {s : State} {sargs : Array Value} {y : MethodName} {len W9 : Nat}
theorem vx_backW {ws : List Cond} {rm : Room} {Pc : Array Value → State → Prop} {Qc : Array Value → State → Outcome → State → Prop} {XC : String → State → State → Prop} {mc ms : Nat} {free : Addr → Prop} {bytes : ByteArray} {maxL : Nat} {ret : Option FieldType} {hh : List (Nat × Nat × Nat × Nat)}
    (hM : vx_Met l y ws rm Pc Qc XC mc ms free) (hblind : FrameBlind Pc) (hrc : rm.cells = mc) (hrs : rm.slots = ms)
    (hframes : rm.frames + 1 ≤ R.frames) (hlocals : W9 + (maxL + 11) + rm.locals ≤ R.locals)
    (hws : ∀ w ∈ ws, ∀ a' U, s.WarmedH U.vm → w.before a' U = true) (hcode : Cond.codeWith y bytes maxL ret hh ∈ ws) (hinit : ∀ a' U, s.WarmedH U.vm → (Cond.initialized y.cls).before a' U = true) :
    vx_Back l R p e below s sargs y len W9 (PreOf R mc ms Pc) (PostOf Qc mc ms free) (vx_Post XC mc ms free) := by
  intro m meth c A g ig mk a X hg hsize hdg hW hn hp
  have h1 : (headSpec ws rm).pre.before a A.U = true := atoms_intro fun w hw => hws w hw _ _ X.warmed
  have h2 : (Cond.codeWith y bytes maxL ret hh).before a A.U = true := hws _ hcode _ _ X.warmed
  have h3 : (Cond.initialized y.cls).before a A.U = true := hinit _ _ X.warmed
  have h4 : A.cells + (headSpec ws rm).room.cells ≤ R.cells := by rw [show (headSpec ws rm).room.cells = mc from hrc]; exact hp.1
  have h5 : A.slots + (headSpec ws rm).room.slots ≤ R.slots := by rw [show (headSpec ws rm).room.slots = ms from hrs]; exact hp.2.1
  have hPc : Pc a (A.U.calling g mk a) := hblind _ _ _ _ hp.2.2
  obtain ⟨U, Ls, c0, s0⟩ := A
  dsimp only [Pt.U, Pt.locs, Pt.cells, Pt.slots] at h1 h2 h3 h4 h5 X hn hPc ⊢
  obtain ⟨m9, methY, cY, hn9, hmY, hcY, -, hlY, -⟩ := Cond.codeWith_spec h2
  cases Option.some.inj (hn9.symm.trans hn)
  obtain ⟨kY, hkY, -⟩ := className_of_methodNamed hn
  have hinitY : kY.init = .initialized := Cond.initialized_spec (findClass_of_methodNamed hn) hkY h3
  have h : At U g.method c below := by rw [hg]; exact X.here
  have hlocals9 : W9 + (maxL + 11) + (headSpec ws rm).room.locals ≤ R.locals := hlocals
  have happ : (headSpec ws rm).appliesLoose y e.platform (U.calling g mk a) = true :=
    Spec.appliesLoose_calling (g := g) h hdg hn hkY hinitY
      (X.room_calling (g := g) (R' := (headSpec ws rm).room) hsize hmY hcY hframes (by rw [hlY]; omega) h4 h5) h1
  obtain ⟨mid, hmid⟩ := h.above
  have hfr : (U.setTop g).frames = (.java g :: mid) ++ below := by rw [State.frames_setTop' g h.top, hmid]; rfl
  obtain ⟨o, s₂, hsteps, -, hend, hq⟩ := Steps.callFree hM p X.admits X.cas X.clock (acts := []) hfr happ hPc trivial
  have hq' : vx_Q Qc XC mc ms free a (U.calling g mk a) o s₂ := hq
  rw [State.frames_setTop' g h.top] at hend
  obtain ⟨g₀, hg0⟩ := Option.isSome_iff_exists.mp h.top
  obtain ⟨r, hr⟩ := State.topJava?_eq_some.mp hg0
  have hr' : (({ U with heap := s₂.heap, slotsUsed := s₂.slotsUsed } : State).setVm s₂.vm).frames = .java g₀ :: r := hr
  rcases hq' with ⟨hqc, L, hfe, hL⟩ | ⟨q, rfl, E, ce, L, hx, hce, hcv, hcl, hW₂, hsm, hL⟩
  · obtain ⟨⟨v, rfl⟩, hW₂, e2, q2, q3, q4, q5, q6⟩ := id hfe
    have e3 : s₂ = ({ (U.calling g mk a).setFrames s₂.frames with heap := s₂.heap, slotsUsed := s₂.slotsUsed } : State).setVm s₂.vm := by
      have : s₂ = ({ s₂ with vm := (U.calling g mk a).vm } : State).setVm s₂.vm := rfl
      rw [e2] at this
      exact this
    obtain ⟨c₂, i₂, len₂, hc₂, hd₂, hf₂⟩ := hend
    have hW' : U.WarmedH s₂.vm := hW₂
    have hcc : c₂ = c := by
      have h1 : s₂.code? g.method = U.code? g.method := by
        rw [State.code?_eq, State.code?_eq, hW'.alike.method?]
      exact Option.some.inj (hc₂.symm.trans (h1.trans h.code))
    subst hcc
    have hlen : len₂ = len := by rw [hdg] at hd₂; cases hd₂; rfl
    subst hlen
    have hs₂ : s₂ = (({ U with heap := s₂.heap, slotsUsed := s₂.slotsUsed } : State).setVm s₂.vm).setTop { g with pc := g.pc + len₂, stack := v.toList ++ g.stack } := by
      refine e3.trans ?_
      rw [hf₂, State.calling_eq h.top, State.setFrames_setFrames, State.setTop_of_frames _ hr', hr]
      rfl
    have hsame : U.sameButNew ({ U with heap := s₂.heap, slotsUsed := s₂.slotsUsed } : State) L mc ms := by
      refine ⟨?_, q2, q3, q4, q5, q6⟩
      obtain ⟨t, ht, -⟩ := State.frames_cons hr
      show ({ U with heap := s₂.heap, slotsUsed := s₂.slotsUsed } : State) = { U.setFrames U.frames with heap := s₂.heap, slotsUsed := s₂.slotsUsed }
      rw [State.setFrames_self ht]
    subst hg
    refine Or.inl ⟨v, ⟨(({ U with heap := s₂.heap, slotsUsed := s₂.slotsUsed } : State).setVm s₂.vm), Ls ++ L, c0 + mc, s0 + ms⟩,
      ⟨X.admits, X.cas, X.clock, X.frames, X.room, X.hears, X.method, X.code, (X.here.setHeapUsed s₂.heap s₂.slotsUsed).setVm hW'.alike, X.tail, State.WarmedH.trans X.warmed hW', X.limits, X.bytes, X.same.trans (hsame.setVm s.vm)⟩,
      ⟨g, mk, s₂, L, rfl, rfl, hqc, rfl, hL, rfl, rfl⟩, ?_⟩
    show Steps p.tables e below _ ((({ U with heap := s₂.heap, slotsUsed := s₂.slotsUsed } : State).setVm s₂.vm).setTop { g with pc := g.pc + len₂, stack := v.toList ++ g.stack })
    rw [← hs₂]
    exact hsteps
  · obtain ⟨e2, q2, q3, q4, q5, q6⟩ := id hsm
    have e3 : s₂ = ({ (U.calling g mk a).setFrames s₂.frames with heap := s₂.heap, slotsUsed := s₂.slotsUsed } : State).setVm s₂.vm := by
      have : s₂ = ({ s₂ with vm := (U.calling g mk a).vm } : State).setVm s₂.vm := rfl
      rw [e2] at this
      exact this
    have hf₂ : s₂.frames = .throwing q :: .java g :: U.frames.tail := hend
    have hW' : U.WarmedH s₂.vm := hW₂
    have hs₂ : s₂ = ((({ U with heap := s₂.heap, slotsUsed := s₂.slotsUsed } : State).setVm s₂.vm).setTop g).pushFrame (.throwing q) := by
      refine e3.trans ?_
      rw [hf₂, State.calling_eq h.top, State.setFrames_setFrames, State.pushFrame, State.frames_setTop _ hr', State.setTop_of_frames _ hr', State.setFrames_setFrames, hr]
      rfl
    have hsame : U.sameButNew ({ U with heap := s₂.heap, slotsUsed := s₂.slotsUsed } : State) L mc ms := by
      refine ⟨?_, q2, q3, q4, q5, q6⟩
      obtain ⟨t, ht, -⟩ := State.frames_cons hr
      show ({ U with heap := s₂.heap, slotsUsed := s₂.slotsUsed } : State) = { U.setFrames U.frames with heap := s₂.heap, slotsUsed := s₂.slotsUsed }
      rw [State.setFrames_self ht]
    subst hg
    refine Or.inr ⟨q, ⟨(({ U with heap := s₂.heap, slotsUsed := s₂.slotsUsed } : State).setVm s₂.vm), Ls ++ L, c0 + mc, s0 + ms⟩,
      ⟨X.admits, X.cas, X.clock, X.frames, X.room, X.hears, X.method, X.code, (X.here.setHeapUsed s₂.heap s₂.slotsUsed).setVm hW'.alike, X.tail, State.WarmedH.trans X.warmed hW', X.limits, X.bytes, X.same.trans (hsame.setVm s.vm)⟩,
      ⟨g, mk, s₂, L, E, ce, rfl, rfl, hx, hce, hcv, hcl, rfl, hL, rfl, rfl⟩, ?_⟩
    show Steps p.tables e below _ (((({ U with heap := s₂.heap, slotsUsed := s₂.slotsUsed } : State).setVm s₂.vm).setTop g).pushFrame (.throwing q))
    rw [← hs₂]
    exact hsteps
end
variable {p : Program} {l : Launch} {e : Env} {R : Room} {s : State} {m : MethodId} {args : Array Value} {below : List Frame} {meth : Method} {c : Code} {T : State} {H : Heap} {locs : List Loc} {cells slots : Nat}
theorem vx_callVX (X : Stand p l e R s m args below meth c T locs cells slots) (hexec : p.tables.exec = Jvm.exec) {own C : String} {index : Nat} {y : MethodName} {bytes : ByteArray} {maxL : Nat} {ret : Option FieldType} {hh : List (Nat × Nat × Nat × Nat)}
    (hown : s.vm.findClass own = some m.cls) (hlink : (Cond.methodLink own index y).before args s = true) (hinst : (Cond.instanceMethod y).before args s = true) (hsel : (Cond.selects C y y).before args s = true)
    (hcode : (Cond.codeWith y bytes maxL ret hh).before args s = true) (hy : y.cls ≠ "java/lang/invoke/MethodHandle" ∧ y.cls ≠ "java/lang/invoke/VarHandle")
    {W9 : Nat} {Pre : Pt → Array Value → Prop} {Post : Pt → Array Value → Option Value → Pt → Prop} {PostX : Pt → Array Value → Addr → Pt → Prop} (hK : vx_Back l R p e below s args y 3 W9 Pre Post PostX)
    {b : Addr} {cellB : Cell} (hcell : T.heap[b]? = some cellB) (hobj : cellB.vm.isStatics = false) (hcls : s.vm.findClass C = some cellB.cls)
    {g : JFrame} (hg : g.method = m) (hsize : g.locals.size = c.maxLocals) {argsL rest : List Value} (hlen : ∀ sig, parseMethodDescriptor y.desc = some sig → argsL.length = sig.parameters.length)
    (hstack : g.stack = argsL.reverse ++ .ref b :: rest) (hW : 2 * g.monitorRoom + (rest.map fun v => v.category).sum ≤ W9) (hdg : decode c.code g.pc = .ok (.invokevirtual index, 3))
    (hpre : ∀ vm₁, s.WarmedH vm₁ → Pre ⟨T.setVm vm₁, locs, cells, slots⟩ (Value.ref b :: argsL).toArray) :
    (∃ (v : Option Value) (vm₁ : Vm) (B : Pt), s.WarmedH vm₁ ∧ Stand p l e R s m args below meth c B.U B.locs B.cells B.slots ∧ Post ⟨T.setVm vm₁, locs, cells, slots⟩ (Value.ref b :: argsL).toArray v B ∧
      ∀ target, Steps p.tables e below (B.U.setTop { g with pc := g.pc + 3, stack := v.toList ++ rest }) target → Steps p.tables e below (T.setTop g) target) ∨
    (∃ (q : Addr) (vm₁ : Vm) (B : Pt), s.WarmedH vm₁ ∧ Stand p l e R s m args below meth c B.U B.locs B.cells B.slots ∧ PostX ⟨T.setVm vm₁, locs, cells, slots⟩ (Value.ref b :: argsL).toArray q B ∧
      Steps p.tables e below (T.setTop g) ((B.U.setTop { g with stack := rest }).pushFrame (.throwing q))) := by
  obtain ⟨mk, methM, hnamed, hmethM, hstM, habM⟩ := Cond.instanceMethod_spec hinst
  obtain ⟨m8, methM', cM, hn8, hmethM', -, -, -, -, -, -, hsigM⟩ := Cond.codeWith_spec hcode
  cases Option.some.inj (hn8.symm.trans hnamed)
  cases hmethM.symm.trans hmethM'
  obtain ⟨c2, r2, m2, q1, q2, q3, q4, kP, hkP, hkPi⟩ := Cond.selects_spec hsel
  cases hcls.symm.trans q1
  cases (State.methodFound?_of_named hnamed hy).symm.trans q2
  cases hnamed.symm.trans q3
  have hselP : selectMethod e.platform s.vm cellB.cls mk = .method mk := by rw [Launch.admits_selectMethod X.admits]; exact q4
  obtain ⟨vm₁, X₁, hstep₁⟩ := X.invokevirtual hexec hown hlink hnamed hmethM hstM hkP hkPi hy (a := b) (cell := cellB) hcell
    (fun z h => by rw [h] at hobj; cases hobj) hselP hmethM habM hkP hkPi (g := g) hg (argsL := argsL) (rest := rest) (hlen _ hsigM) hstack hdg
  rcases hK m meth c ⟨T.setVm vm₁, locs, cells, slots⟩ { g with stack := rest } (.invokevirtual index) mk (Value.ref b :: argsL).toArray X₁ hg hsize hdg hW (X₁.named hnamed) (hpre vm₁ X₁.warmed) with ⟨v, B, X', hpost, hsteps⟩ | ⟨q, B, X', hpost, hsteps⟩
  · exact Or.inl ⟨v, vm₁, B, X₁.warmed, X', hpost, fun target h => hstep₁ _ fun acts => by rw [doInvoke_state]; exact hsteps.trans h⟩
  · exact Or.inr ⟨q, vm₁, B, X₁.warmed, X', hpost, hstep₁ _ fun acts => by rw [doInvoke_state]; exact hsteps⟩
theorem vx_callSX (X : Stand p l e R s m args below meth c T locs cells slots) (hexec : p.tables.exec = Jvm.exec) {own : String} {index : Nat} {y : MethodName} {bytes : ByteArray} {maxL : Nat} {ret : Option FieldType} {hh : List (Nat × Nat × Nat × Nat)}
    (hown : s.vm.findClass own = some m.cls) (hlink : (Cond.methodLink own index y).before args s = true) (hstat : (Cond.static y).before args s = true) (hinit : (Cond.initialized y.cls).before args s = true)
    (hcode : (Cond.codeWith y bytes maxL ret hh).before args s = true) (hy : y.cls ≠ "java/lang/invoke/MethodHandle" ∧ y.cls ≠ "java/lang/invoke/VarHandle")
    {W9 : Nat} {Pre : Pt → Array Value → Prop} {Post : Pt → Array Value → Option Value → Pt → Prop} {PostX : Pt → Array Value → Addr → Pt → Prop} (hK : vx_Back l R p e below s args y 3 W9 Pre Post PostX)
    {g : JFrame} (hg : g.method = m) (hsize : g.locals.size = c.maxLocals) {argsL rest : List Value} (hlen : ∀ sig, parseMethodDescriptor y.desc = some sig → argsL.length = sig.parameters.length)
    (hstack : g.stack = argsL.reverse ++ rest) (hW : 2 * g.monitorRoom + (rest.map fun v => v.category).sum ≤ W9) (hdg : decode c.code g.pc = .ok (.invokestatic index, 3))
    (hpre : ∀ vm₁, s.WarmedH vm₁ → Pre ⟨T.setVm vm₁, locs, cells, slots⟩ argsL.toArray) :
    (∃ (v : Option Value) (vm₁ : Vm) (B : Pt), s.WarmedH vm₁ ∧ Stand p l e R s m args below meth c B.U B.locs B.cells B.slots ∧ Post ⟨T.setVm vm₁, locs, cells, slots⟩ argsL.toArray v B ∧
      ∀ target, Steps p.tables e below (B.U.setTop { g with pc := g.pc + 3, stack := v.toList ++ rest }) target → Steps p.tables e below (T.setTop g) target) ∨
    (∃ (q : Addr) (vm₁ : Vm) (B : Pt), s.WarmedH vm₁ ∧ Stand p l e R s m args below meth c B.U B.locs B.cells B.slots ∧ PostX ⟨T.setVm vm₁, locs, cells, slots⟩ argsL.toArray q B ∧
      Steps p.tables e below (T.setTop g) ((B.U.setTop { g with stack := rest }).pushFrame (.throwing q))) := by
  obtain ⟨mk, methM, cM, hnamed, hmethM, -, -, -, -, -, -, hsigM⟩ := Cond.codeWith_spec hcode
  have hstatic : methM.isStatic = true := Cond.static_spec hnamed hmethM hstat
  obtain ⟨kP, hkP, -⟩ := className_of_methodNamed hnamed
  have hinitP : kP.init = .initialized := Cond.initialized_spec (findClass_of_methodNamed hnamed) hkP hinit
  obtain ⟨vm₁, X₁, hstep₁⟩ := X.invokestatic hexec hown hlink hnamed hmethM hstatic hkP hinitP hy (g := g) hg (argsL := argsL) (rest := rest) (hlen _ hsigM) hstack hdg
  rcases hK m meth c ⟨T.setVm vm₁, locs, cells, slots⟩ { g with stack := rest } (.invokestatic index) mk argsL.toArray X₁ hg hsize hdg hW (X₁.named hnamed) (hpre vm₁ X₁.warmed) with ⟨v, B, X', hpost, hsteps⟩ | ⟨q, B, X', hpost, hsteps⟩
  · exact Or.inl ⟨v, vm₁, B, X₁.warmed, X', hpost, fun target h => hstep₁ _ fun acts => by rw [doInvoke_state]; exact hsteps.trans h⟩
  · exact Or.inr ⟨q, vm₁, B, X₁.warmed, X', hpost, hstep₁ _ fun acts => by rw [doInvoke_state]; exact hsteps⟩
theorem vx_callVW (X : Stand p l e R s m args below meth c T locs cells slots) (hexec : p.tables.exec = Jvm.exec) {own C : String} {index : Nat} {y : MethodName} {bytes : ByteArray} {maxL : Nat} {ret : Option FieldType} {hh : List (Nat × Nat × Nat × Nat)}
    (hown : s.vm.findClass own = some m.cls) (hlink : (Cond.methodLink own index y).before args s = true) (hinst : (Cond.instanceMethod y).before args s = true) (hsel : (Cond.selects C y y).before args s = true)
    (hcode : (Cond.codeWith y bytes maxL ret hh).before args s = true) (hy : y.cls ≠ "java/lang/invoke/MethodHandle" ∧ y.cls ≠ "java/lang/invoke/VarHandle")
    {W9 : Nat} {Pre : Pt → Array Value → Prop} {Post : Pt → Array Value → Option Value → Pt → Prop} (hK : Back l R p e below s args y 3 W9 Pre Post)
    {b : Addr} {cellB : Cell} (hcell : T.heap[b]? = some cellB) (hobj : cellB.vm.isStatics = false) (hcls : s.vm.findClass C = some cellB.cls)
    {g : JFrame} (hg : g.method = m) (hsize : g.locals.size = c.maxLocals) {argsL rest : List Value} (hlen : ∀ sig, parseMethodDescriptor y.desc = some sig → argsL.length = sig.parameters.length)
    (hstack : g.stack = argsL.reverse ++ .ref b :: rest) (hW : 2 * g.monitorRoom + (rest.map fun v => v.category).sum ≤ W9) (hdg : decode c.code g.pc = .ok (.invokevirtual index, 3))
    (hpre : ∀ vm₁, s.WarmedH vm₁ → Pre ⟨T.setVm vm₁, locs, cells, slots⟩ (Value.ref b :: argsL).toArray) :
    ∃ (v : Option Value) (vm₁ : Vm) (B : Pt), s.WarmedH vm₁ ∧ Stand p l e R s m args below meth c B.U B.locs B.cells B.slots ∧ Post ⟨T.setVm vm₁, locs, cells, slots⟩ (Value.ref b :: argsL).toArray v B ∧
      ∀ target, Steps p.tables e below (B.U.setTop { g with pc := g.pc + 3, stack := v.toList ++ rest }) target → Steps p.tables e below (T.setTop g) target := by
  obtain ⟨mk, methM, hnamed, hmethM, hstM, habM⟩ := Cond.instanceMethod_spec hinst
  obtain ⟨m8, methM', cM, hn8, hmethM', -, -, -, -, -, -, hsigM⟩ := Cond.codeWith_spec hcode
  cases Option.some.inj (hn8.symm.trans hnamed)
  cases hmethM.symm.trans hmethM'
  obtain ⟨c2, r2, m2, q1, q2, q3, q4, kP, hkP, hkPi⟩ := Cond.selects_spec hsel
  cases hcls.symm.trans q1
  cases (State.methodFound?_of_named hnamed hy).symm.trans q2
  cases hnamed.symm.trans q3
  have hselP : selectMethod e.platform s.vm cellB.cls mk = .method mk := by rw [Launch.admits_selectMethod X.admits]; exact q4
  obtain ⟨vm₁, X₁, hstep₁⟩ := X.invokevirtual hexec hown hlink hnamed hmethM hstM hkP hkPi hy (a := b) (cell := cellB) hcell
    (fun z h => by rw [h] at hobj; cases hobj) hselP hmethM habM hkP hkPi (g := g) hg (argsL := argsL) (rest := rest) (hlen _ hsigM) hstack hdg
  obtain ⟨v, B, X', hpost, hsteps⟩ := hK m meth c ⟨T.setVm vm₁, locs, cells, slots⟩ { g with stack := rest } (.invokevirtual index) mk (Value.ref b :: argsL).toArray X₁ hg hsize hdg hW (X₁.named hnamed) (hpre vm₁ X₁.warmed)
  exact ⟨v, vm₁, B, X₁.warmed, X', hpost, fun target h => hstep₁ _ fun acts => by rw [doInvoke_state]; exact hsteps.trans h⟩
abbrev vx_CVW (R : Room) (s : State) (args : Array Value) (own C : String) (index : Nat) (y : MethodName) (bytes : ByteArray) (maxL : Nat) (ret : Option FieldType) (hh : List (Nat × Nat × Nat × Nat)) (ws : List Cond) (rm : Room) (mc ms n : Nat) : Prop :=
  (rm.cells = mc ∧ rm.slots = ms ∧ rm.frames + 1 ≤ R.frames ∧ 8 + (maxL + 11) + rm.locals ≤ R.locals ∧ (∀ w ∈ ws, ∀ (a' : Array Value) (U : State), s.WarmedH U.vm → w.before a' U = true) ∧ Cond.codeWith y bytes maxL ret hh ∈ ws) ∧
  (Cond.codeWith y bytes maxL ret hh).before args s = true ∧ (Cond.initialized y.cls).before args s = true ∧ (y.cls ≠ "java/lang/invoke/MethodHandle" ∧ y.cls ≠ "java/lang/invoke/VarHandle") ∧
  (∀ sig, parseMethodDescriptor y.desc = some sig → n = sig.parameters.length) ∧ (Cond.methodLink own index y).before args s = true ∧ (Cond.instanceMethod y).before args s = true ∧ (Cond.selects C y y).before args s = true
theorem vx_cwVW {own C : String} {index maxL mc ms : Nat} {y : MethodName} {bytes : ByteArray} {ret : Option FieldType} {hh : List (Nat × Nat × Nat × Nat)} {Ts ws ws' : List Cond} {rm : Room} (n : Nat) (ht : ∀ w ∈ Ts, w.before args s = true) (hT : GoodIn Ts (wsV own index C y ws)) (hw : ws = Cond.codeWith y bytes maxL ret hh :: ws') (hrc : rm.cells = mc) (hrs : rm.slots = ms)
    (hd : y.cls = C ∧ y.cls ≠ "java/lang/invoke/MethodHandle" ∧ y.cls ≠ "java/lang/invoke/VarHandle" ∧ (parseMethodDescriptor y.desc).map (fun d => d.parameters.length) = some n) (hR : rm.frames + 1 ≤ R.frames ∧ 8 + (maxL + 11) + rm.locals ≤ R.locals) :
    vx_CVW R s args own C index y bytes maxL ret hh ws rm mc ms n := by
  obtain ⟨hC, hd⟩ := hd
  subst hC
  have ok : ∀ w ∈ wsV own index y.cls y ws, w.before args s = true := fun w h => ht w (hT w h).1
  have hG : GoodIn Ts ws := fun w h => hT w (by unfold wsV; exact List.mem_append_right _ h)
  have hc : Cond.codeWith y bytes maxL ret hh ∈ ws := by rw [hw]; exact List.mem_cons_self
  refine ⟨⟨hrc, hrs, hR.1, hR.2, pay_in ht hG, hc⟩, ht _ (hG _ hc).1, ok _ (by simp [wsV]), ⟨hd.1, hd.2.1⟩, fun sig h => ?_, ok _ (by simp [wsV]), ok _ (by simp [wsV]), ok _ (by simp [wsV])⟩
  have h2 := hd.2.2
  rw [h] at h2
  exact (Option.some.inj h2).symm
theorem vx_runVW {y : MethodName} {bytes cc : ByteArray} {maxL nL mc ms n index : Nat} {ret : Option FieldType} {hh : List (Nat × Nat × Nat × Nat)} {ws : List Cond} {rm : Room} {Pc : Array Value → State → Prop} {Qc : Array Value → State → Outcome → State → Prop} {free : Addr → Prop} {Ts : List Cond} {own C : String} {b : Addr} {As rest : List Value} {g : JFrame}
    (S : CallFix p m c cc nL s args Ts own) (hM : Met l y ws rm Pc Qc mc ms free) (cw : vx_CVW R s args own C index y bytes maxL ret hh ws rm mc ms n) (hp : PreV s H C b Pc As)
    (hg : g.method = m) (hn : As.length = n) (hsize : g.locals.size = nL) (hstack : g.stack = As.reverse ++ .ref b :: rest) (hW : 2 * g.monitorRoom + (rest.map fun v => v.category).sum ≤ 8) (hdg : decode cc g.pc = .ok (.invokevirtual index, 3)) (hf : cells + mc ≤ R.cells ∧ slots + ms ≤ R.slots) :
    va_Run p l e R s m args below meth c H locs cells slots mc ms g rest (Qc (Value.ref b :: As).toArray) free := by
  obtain ⟨⟨hrc, hrs, hfr, hlo, hws, hcw⟩, hcode, hini, hy, hlen, hl, hin, hse⟩ := cw
  have hK : Back l R p e below s args y 3 8 (PreOf R mc ms Pc) (PostOf Qc mc ms free) := va_backW (hh := hh) (bytes := bytes) (maxL := maxL) (ret := ret) hM hp.1 hrc hrs hfr hlo hws hcw (fun a' U hW => word_at hW (Or.inl (by first | rfl | simp [Cond.onTables, Cond.keeps, Cond.steady])) hini)
  obtain ⟨hx, hb, hml, ho, -⟩ := S
  obtain ⟨-, ⟨cellB, hcB, hoB, hclB⟩, hPc⟩ := hp
  intro T hT X
  obtain ⟨v, vm₁, ⟨U', l2, c2, s2⟩, hW₁, X', ⟨g', mk, t, L, e1, e2, hq, h1, hL, h2, h3⟩, st⟩ := vx_callVW X hx (C := C) (hh := hh) (bytes := bytes) (maxL := maxL) (ret := ret) ho hl hin hse hcode hy hK (by rw [hT]; exact hcB) hoB hclB hg (hsize.trans hml.symm) (argsL := As) (rest := rest) (fun sig h => hn.trans (hlen sig h)) hstack hW (by rw [hb]; exact hdg)
    (fun vm₁ hW₁ => ⟨hf.1, hf.2, hPc (T.setVm vm₁) hT hW₁⟩)
  dsimp only [Pt.U, Pt.locs, Pt.cells, Pt.slots] at X' e1 e2 h1 h2 h3 st
  subst h1; subst h2; subst h3
  exact ⟨v, (T.setVm vm₁).calling g' mk (Value.ref b :: As).toArray, t, U', L, hT, X', hL, e1, e2, hq, st⟩
section
variable {y : MethodName} {bytes cc : ByteArray} {maxL nL mc ms n index : Nat} {ret : Option FieldType} {ws : List Cond} {rm : Room} {Pc : Array Value → State → Prop} {Qc : Array Value → State → Outcome → State → Prop} {XC : String → State → State → Prop} {free : Addr → Prop} {Ts : List Cond} {own C : String} {b : Addr} {As rest : List Value} {g : JFrame}
theorem vx_runVX {hh : List (Nat × Nat × Nat × Nat)} (S : CallFix p m c cc nL s args Ts own) (hM : vx_Met l y ws rm Pc Qc XC mc ms free) (cw : vx_CVW R s args own C index y bytes maxL ret hh ws rm mc ms n) (hp : PreV s H C b Pc As)
    (hg : g.method = m) (hn : As.length = n) (hsize : g.locals.size = nL) (hstack : g.stack = As.reverse ++ .ref b :: rest) (hW : 2 * g.monitorRoom + (rest.map fun v => v.category).sum ≤ 8) (hdg : decode cc g.pc = .ok (.invokevirtual index, 3)) (hf : cells + mc ≤ R.cells ∧ slots + ms ≤ R.slots) :
    vx_Run p l e R s m args below meth c H locs cells slots mc ms g rest (Qc (Value.ref b :: As).toArray) XC free := by
  obtain ⟨⟨hrc, hrs, hfr, hlo, hws, hcw⟩, hcode, hini, hy, hlen, hl, hin, hse⟩ := cw
  have hK : vx_Back l R p e below s args y 3 8 (PreOf R mc ms Pc) (PostOf Qc mc ms free) (vx_Post XC mc ms free) := vx_backW (hh := hh) (bytes := bytes) (maxL := maxL) (ret := ret) hM hp.1 hrc hrs hfr hlo hws hcw (fun a' U hW => word_at hW (Or.inl (by first | rfl | simp [Cond.onTables, Cond.keeps, Cond.steady])) hini)
  obtain ⟨hx, hb, hml, ho, -⟩ := S
  obtain ⟨-, ⟨cellB, hcB, hoB, hclB⟩, hPc⟩ := hp
  intro T hT X
  rcases vx_callVX X hx (C := C) (hh := hh) (bytes := bytes) (maxL := maxL) (ret := ret) ho hl hin hse hcode hy hK (by rw [hT]; exact hcB) hoB hclB hg (hsize.trans hml.symm) (argsL := As) (rest := rest) (fun sig h => hn.trans (hlen sig h)) hstack hW (by rw [hb]; exact hdg)
    (fun vm₁ hW₁ => ⟨hf.1, hf.2, hPc (T.setVm vm₁) hT hW₁⟩) with ⟨v, vm₁, ⟨U', l2, c2, s2⟩, hW₁, X', ⟨g', mk, t, L, e1, e2, hq, h1, hL, h2, h3⟩, st⟩ | ⟨q, vm₁, ⟨U', l2, c2, s2⟩, hW₁, X', ⟨g', mk, t, L, E, ce, e1, e2, hq, hce, hcv, hcl, h1, hL, h2, h3⟩, st⟩
  · dsimp only [Pt.U, Pt.locs, Pt.cells, Pt.slots] at X' e1 e2 h1 h2 h3 st
    subst h1; subst h2; subst h3
    exact Or.inl ⟨v, (T.setVm vm₁).calling g' mk (Value.ref b :: As).toArray, t, U', L, hT, X', hL, e1, e2, hq, st⟩
  · dsimp only [Pt.U, Pt.locs, Pt.cells, Pt.slots] at X' e1 e2 h1 h2 h3 st hcl
    subst h1; subst h2; subst h3
    exact Or.inr ⟨q, (T.setVm vm₁).calling g' mk (Value.ref b :: As).toArray, t, U', L, E, ce, hT, X', hL, e1, e2, hq, hce, hcv, vx_cls hW₁ hcl, st⟩
theorem vx_runSX {hh : List (Nat × Nat × Nat × Nat)} (S : CallFix p m c cc nL s args Ts own) (hM : vx_Met l y ws rm Pc Qc XC mc ms free) (cw : vx_CSW R s args own index y bytes maxL ret hh ws rm mc ms n) (hp : PreS s H Pc As)
    (hg : g.method = m) (hn : As.length = n) (hsize : g.locals.size = nL) (hstack : g.stack = As.reverse ++ rest) (hW : 2 * g.monitorRoom + (rest.map fun v => v.category).sum ≤ 8) (hdg : decode cc g.pc = .ok (.invokestatic index, 3)) (hf : cells + mc ≤ R.cells ∧ slots + ms ≤ R.slots) :
    vx_Run p l e R s m args below meth c H locs cells slots mc ms g rest (Qc As.toArray) XC free := by
  obtain ⟨⟨hrc, hrs, hfr, hlo, hws, hcw⟩, hcode, hini, hy, hlen, hl, hstt⟩ := cw
  have hK : vx_Back l R p e below s args y 3 8 (PreOf R mc ms Pc) (PostOf Qc mc ms free) (vx_Post XC mc ms free) := vx_backW (hh := hh) (bytes := bytes) (maxL := maxL) (ret := ret) hM hp.1 hrc hrs hfr hlo hws hcw (fun a' U hW => word_at hW (Or.inl (by first | rfl | simp [Cond.onTables, Cond.keeps, Cond.steady])) hini)
  obtain ⟨hx, hb, hml, ho, -⟩ := S
  intro T hT X
  rcases vx_callSX X hx (hh := hh) (bytes := bytes) (maxL := maxL) (ret := ret) ho hl hstt hini hcode hy hK hg (hsize.trans hml.symm) (argsL := As) (rest := rest) (fun sig h => hn.trans (hlen sig h)) hstack hW (by rw [hb]; exact hdg)
    (fun vm₁ hW₁ => ⟨hf.1, hf.2, hp.2 (T.setVm vm₁) hT hW₁⟩) with ⟨v, vm₁, ⟨U', l2, c2, s2⟩, hW₁, X', ⟨g', mk, t, L, e1, e2, hq, h1, hL, h2, h3⟩, st⟩ | ⟨q, vm₁, ⟨U', l2, c2, s2⟩, hW₁, X', ⟨g', mk, t, L, E, ce, e1, e2, hq, hce, hcv, hcl, h1, hL, h2, h3⟩, st⟩
  · dsimp only [Pt.U, Pt.locs, Pt.cells, Pt.slots] at X' e1 e2 h1 h2 h3 st
    subst h1; subst h2; subst h3
    exact Or.inl ⟨v, (T.setVm vm₁).calling g' mk As.toArray, t, U', L, hT, X', hL, e1, e2, hq, st⟩
  · dsimp only [Pt.U, Pt.locs, Pt.cells, Pt.slots] at X' e1 e2 h1 h2 h3 st hcl
    subst h1; subst h2; subst h3
    exact Or.inr ⟨q, (T.setVm vm₁).calling g' mk As.toArray, t, U', L, E, ce, hT, X', hL, e1, e2, hq, hce, hcv, vx_cls hW₁ hcl, st⟩
end
end VXH
theorem vx_ofWH {l : Launch} {y : MethodName} {ws ws' : List Cond} {rm : Room} {Pc : Array Value → State → Prop} {Qc : Array Value → State → Outcome → State → Prop} {XC : String → State → State → Prop} {mc ms : Nat} {free : Addr → Prop} {cc : ByteArray} {maxL : Nat} {ret : Option FieldType} {hh : List (Nat × Nat × Nat × Nat)}
    (hy : plainName y.cls = true) (hw : ws = Cond.codeWith y cc maxL ret hh :: ws')
    (body : ∀ p e s m args below meth c s₁, BodyLoose p l y (headSpec ws rm) cc maxL ret e s m args below meth c s₁ → c.maxLocals = maxL → Pc args s →
      W p l e (headSpec ws rm).room s m args below meth c s.heap [] 0 0 (vx_MQ below Qc XC args s mc ms free) (entryFrame m args maxL)) : vx_Met l y ws rm Pc Qc XC mc ms free := by
  refine MetFree.of_bodyS (code := cc) (maxLocals := maxL) (ret := ret) hy ?_ ?_
  · intro args s m h hn
    obtain ⟨m9, meth, c, hn9, h1, h2, h3, h4, -, h5, h6, -⟩ := Cond.codeWith_spec (atoms_spec (ws := ws) h _ (by rw [hw]; exact List.mem_cons_self))
    cases hn.symm.trans hn9
    exact ⟨meth, c, h1, h2, h3, h4, h5, h6⟩
  · intro p e s m args below meth c s₁ B hml hP _
    have hh0 : s₁.heap = s.heap := by rw [B.state]; rfl
    obtain ⟨t, a1, o, b1, b2, b3⟩ := body p e s m args below meth c s₁ B hml hP s₁ hh0 (Stand.of_body B)
    exact ⟨t, o, a1, b1, b2, b3⟩
/-! ===== END ===== -/
end
section
/-! ===== BEGIN printed: names, fields, word lists, decode rows ===== -/
def RX0 : String := "SlantOaths$History"
def TX0 : u_T := fun k => match k with
  | 0 => ("SlantOaths$History", "slots", "[LSlantOaths$Table;", true)
  | 1 => ("SlantOaths$History", "newest", "I", false)
  | _ => ("SlantOaths$History", "size", "I", false)
def tyX0 : Nat → FieldType := fun k => match k with
  | 0 => .array (.object "SlantOaths$Table")
  | 1 => .int
  | _ => .int
abbrev wsX00 : List Cond := u_ws RX0 TX0 3
theorem nmX0 : ∀ a, a < 3 → ∀ b, b < 3 → a ≠ b → (TX0 a).2.1 ≠ (TX0 b).2.1 := by decide +kernel
theorem tyX0_ok : ∀ k, k < 3 → parseFieldDescriptor (TX0 k).2.2.1 = some (tyX0 k) := by decide +kernel
abbrev cX0_init : ByteArray := prog_2_method_1_code
def yX0_init : MethodName := ⟨RX0, "<init>", "()V"⟩
abbrev cX0_save : ByteArray := prog_2_method_2_code
def yX0_save : MethodName := ⟨RX0, "save", "(LSlantOaths$Table;)V"⟩
abbrev cX0_bringBack : ByteArray := prog_2_method_3_code
def yX0_bringBack : MethodName := ⟨RX0, "bringBack", "(LSlantOaths$Table;)V"⟩
abbrev cX0_newestSlot : ByteArray := prog_2_method_4_code
def yX0_newestSlot : MethodName := ⟨RX0, "newestSlot", "()LSlantOaths$Table;"⟩
def RX1 : String := "SlantOaths$Oaths"
def TX1 : u_T := fun k => match k with
  | 0 => ("SlantOaths$Oaths", "size", "I", false)
  | 1 => ("SlantOaths$Oaths", "sworn", "I", false)
  | 2 => ("SlantOaths$Oaths", "firsts", "LSlantOaths$Row;", true)
  | 3 => ("SlantOaths$Oaths", "seconds", "LSlantOaths$Row;", true)
  | 4 => ("SlantOaths$Oaths", "likes", "LSlantOaths$Row;", true)
  | _ => ("SlantOaths$Oaths", "hands", "LSlantOaths$Row;", true)
def tyX1 : Nat → FieldType := fun k => match k with
  | 0 => .int
  | 1 => .int
  | 2 => .object "SlantOaths$Row"
  | 3 => .object "SlantOaths$Row"
  | 4 => .object "SlantOaths$Row"
  | _ => .object "SlantOaths$Row"
abbrev wsX10 : List Cond := u_ws RX1 TX1 6
theorem nmX1 : ∀ a, a < 6 → ∀ b, b < 6 → a ≠ b → (TX1 a).2.1 ≠ (TX1 b).2.1 := by decide +kernel
theorem tyX1_ok : ∀ k, k < 6 → parseFieldDescriptor (TX1 k).2.2.1 = some (tyX1 k) := by decide +kernel
abbrev cX1_init : ByteArray := prog_3_method_1_code
def yX1_init : MethodName := ⟨RX1, "<init>", "()V"⟩
abbrev cX1_takeOver : ByteArray := prog_3_method_2_code
def yX1_takeOver : MethodName := ⟨RX1, "takeOver", "(LSlantOaths$Oaths;)V"⟩
abbrev cX1_add : ByteArray := prog_3_method_3_code
def yX1_add : MethodName := ⟨RX1, "add", "(IIZ)V"⟩
abbrev cX1_removeAt : ByteArray := prog_3_method_4_code
def yX1_removeAt : MethodName := ⟨RX1, "removeAt", "(I)V"⟩
abbrev cX1_forgetSheet : ByteArray := prog_3_method_5_code
def yX1_forgetSheet : MethodName := ⟨RX1, "forgetSheet", "(I)I"⟩
abbrev cX1_placeOf : ByteArray := prog_3_method_6_code
def yX1_placeOf : MethodName := ⟨RX1, "placeOf", "(II)I"⟩
abbrev cX1_kindOf : ByteArray := prog_3_method_7_code
def yX1_kindOf : MethodName := ⟨RX1, "kindOf", "(II)I"⟩
abbrev cX1_numberOf : ByteArray := prog_3_method_8_code
def yX1_numberOf : MethodName := ⟨RX1, "numberOf", "(II)I"⟩
abbrev cX1_ofSheet : ByteArray := prog_3_method_9_code
def yX1_ofSheet : MethodName := ⟨RX1, "ofSheet", "(I)I"⟩
abbrev cX1_ofOneHand : ByteArray := prog_3_method_10_code
def yX1_ofOneHand : MethodName := ⟨RX1, "ofOneHand", "()I"⟩
abbrev cX1_handOf : ByteArray := prog_3_method_11_code
def yX1_handOf : MethodName := ⟨RX1, "handOf", "(I)I"⟩
abbrev cX1_forbidJoining : ByteArray := prog_3_method_12_code
def yX1_forbidJoining : MethodName := ⟨RX1, "forbidJoining", "(II)Z"⟩
abbrev cX1_leads : ByteArray := prog_3_method_13_code
def yX1_leads : MethodName := ⟨RX1, "leads", "(III)Z"⟩
abbrev cX1_holdsTogether : ByteArray := prog_3_method_14_code
def yX1_holdsTogether : MethodName := ⟨RX1, "holdsTogether", "(I)Z"⟩
abbrev cX1_isOf : ByteArray := prog_3_method_15_code
def yX1_isOf : MethodName := ⟨RX1, "isOf", "(II)Z"⟩
abbrev cX1_isInHands : ByteArray := prog_3_method_16_code
def yX1_isInHands : MethodName := ⟨RX1, "isInHands", "(III)Z"⟩
abbrev cX1_takeOut : ByteArray := prog_3_method_17_code
def yX1_takeOut : MethodName := ⟨RX1, "takeOut", "(I)V"⟩
abbrev cX1_joinHands : ByteArray := prog_3_method_18_code
def yX1_joinHands : MethodName := ⟨RX1, "joinHands", "()V"⟩
abbrev cX1_joinTwo : ByteArray := prog_3_method_19_code
def yX1_joinTwo : MethodName := ⟨RX1, "joinTwo", "(II)V"⟩
abbrev cX1_numberWithout : ByteArray := prog_3_method_20_code
def yX1_numberWithout : MethodName := ⟨RX1, "numberWithout", "(II)I"⟩
def RX2 : String := "SlantOaths$Row"
def TX2 : u_T := fun k => match k with
  | _ => ("SlantOaths$Row", "cells", "[I", true)
def tyX2 : Nat → FieldType := fun k => match k with
  | _ => .array .int
abbrev wsX20 : List Cond := u_ws RX2 TX2 1
theorem nmX2 : ∀ a, a < 1 → ∀ b, b < 1 → a ≠ b → (TX2 a).2.1 ≠ (TX2 b).2.1 := by decide +kernel
theorem tyX2_ok : ∀ k, k < 1 → parseFieldDescriptor (TX2 k).2.2.1 = some (tyX2 k) := by decide +kernel
abbrev cX2_init : ByteArray := prog_4_method_1_code
def yX2_init : MethodName := ⟨RX2, "<init>", "(I)V"⟩
abbrev cX2_at : ByteArray := prog_4_method_2_code
def yX2_at : MethodName := ⟨RX2, "at", "(I)I"⟩
abbrev cX2_put : ByteArray := prog_4_method_3_code
def yX2_put : MethodName := ⟨RX2, "put", "(II)V"⟩
abbrev cX2_copyFrom : ByteArray := prog_4_method_4_code
def yX2_copyFrom : MethodName := ⟨RX2, "copyFrom", "(LSlantOaths$Row;)V"⟩
abbrev cX2_closeUp : ByteArray := prog_4_method_5_code
def yX2_closeUp : MethodName := ⟨RX2, "closeUp", "(I)V"⟩
def RX3 : String := "SlantOaths$Sheet"
def TX3 : u_T := fun k => match k with
  | 0 => ("SlantOaths$Sheet", "strokes", "I", true)
  | 1 => ("SlantOaths$Sheet", "numbers", "LSlantOaths$Row;", true)
  | _ => ("SlantOaths$Sheet", "marks", "LSlantOaths$Row;", true)
def tyX3 : Nat → FieldType := fun k => match k with
  | 0 => .int
  | 1 => .object "SlantOaths$Row"
  | _ => .object "SlantOaths$Row"
abbrev wsX30 : List Cond := u_ws RX3 TX3 3
theorem nmX3 : ∀ a, a < 3 → ∀ b, b < 3 → a ≠ b → (TX3 a).2.1 ≠ (TX3 b).2.1 := by decide +kernel
theorem tyX3_ok : ∀ k, k < 3 → parseFieldDescriptor (TX3 k).2.2.1 = some (tyX3 k) := by decide +kernel
abbrev cX3_init : ByteArray := prog_5_method_1_code
def yX3_init : MethodName := ⟨RX3, "<init>", "(ILSlantOaths$Row;)V"⟩
abbrev cX3_reckonMarks : ByteArray := prog_5_method_2_code
def yX3_reckonMarks : MethodName := ⟨RX3, "reckonMarks", "()V"⟩
abbrev cX3_total : ByteArray := prog_5_method_3_code
def yX3_total : MethodName := ⟨RX3, "total", "(I)I"⟩
abbrev cX3_toldNumber : ByteArray := prog_5_method_4_code
def yX3_toldNumber : MethodName := ⟨RX3, "toldNumber", "(II)I"⟩
abbrev cX3_toldMark : ByteArray := prog_5_method_5_code
def yX3_toldMark : MethodName := ⟨RX3, "toldMark", "(I)I"⟩
abbrev cX3_mixInto : ByteArray := prog_5_method_6_code
def yX3_mixInto : MethodName := ⟨RX3, "mixInto", "(J)J"⟩
abbrev cX3_numberOf : ByteArray := prog_5_method_7_code
def yX3_numberOf : MethodName := ⟨RX3, "numberOf", "(II)I"⟩
abbrev cX3_slantRange : ByteArray := prog_5_method_8_code
def yX3_slantRange : MethodName := ⟨RX3, "slantRange", "()I"⟩
abbrev cX3_loopHeights : ByteArray := prog_5_method_9_code
def yX3_loopHeights : MethodName := ⟨RX3, "loopHeights", "()I"⟩
abbrev cX3_pressureSteps : ByteArray := prog_5_method_10_code
def yX3_pressureSteps : MethodName := ⟨RX3, "pressureSteps", "()I"⟩
abbrev cX3_mean : ByteArray := prog_5_method_11_code
def yX3_mean : MethodName := ⟨RX3, "mean", "(II)I"⟩
def RX4 : String := "SlantOaths$Table"
def TX4 : u_T := fun k => match k with
  | 0 => ("SlantOaths$Table", "blank", "LSlantOaths$Sheet;", true)
  | 1 => ("SlantOaths$Table", "sheets", "[LSlantOaths$Sheet;", true)
  | 2 => ("SlantOaths$Table", "ages", "LSlantOaths$Row;", true)
  | 3 => ("SlantOaths$Table", "size", "I", false)
  | 4 => ("SlantOaths$Table", "oaths", "LSlantOaths$Oaths;", true)
  | 5 => ("SlantOaths$Table", "settings", "LSlantOaths$Row;", true)
  | 6 => ("SlantOaths$Table", "stopPart", "I", false)
  | _ => ("SlantOaths$Table", "stopReason", "I", false)
def tyX4 : Nat → FieldType := fun k => match k with
  | 0 => .object "SlantOaths$Sheet"
  | 1 => .array (.object "SlantOaths$Sheet")
  | 2 => .object "SlantOaths$Row"
  | 3 => .int
  | 4 => .object "SlantOaths$Oaths"
  | 5 => .object "SlantOaths$Row"
  | 6 => .int
  | _ => .int
abbrev wsX40 : List Cond := u_ws RX4 TX4 8
theorem nmX4 : ∀ a, a < 8 → ∀ b, b < 8 → a ≠ b → (TX4 a).2.1 ≠ (TX4 b).2.1 := by decide +kernel
theorem tyX4_ok : ∀ k, k < 8 → parseFieldDescriptor (TX4 k).2.2.1 = some (tyX4 k) := by decide +kernel
abbrev cX4_init : ByteArray := prog_6_method_1_code
def yX4_init : MethodName := ⟨RX4, "<init>", "()V"⟩
abbrev cX4_takeOver : ByteArray := prog_6_method_2_code
def yX4_takeOver : MethodName := ⟨RX4, "takeOver", "(LSlantOaths$Table;)V"⟩
abbrev cX4_forgetStop : ByteArray := prog_6_method_3_code
def yX4_forgetStop : MethodName := ⟨RX4, "forgetStop", "()V"⟩
abbrev cX4_sheetAt : ByteArray := prog_6_method_4_code
def yX4_sheetAt : MethodName := ⟨RX4, "sheetAt", "(I)LSlantOaths$Sheet;"⟩
abbrev cX4_putDown : ByteArray := prog_6_method_5_code
def yX4_putDown : MethodName := ⟨RX4, "putDown", "(LSlantOaths$Sheet;I)I"⟩
abbrev cX4_takeAway : ByteArray := prog_6_method_6_code
def yX4_takeAway : MethodName := ⟨RX4, "takeAway", "(I)I"⟩
abbrev cX4_growOlder : ByteArray := prog_6_method_7_code
def yX4_growOlder : MethodName := ⟨RX4, "growOlder", "(I)I"⟩
abbrev cX4_numberOfSheet : ByteArray := prog_6_method_8_code
def yX4_numberOfSheet : MethodName := ⟨RX4, "numberOfSheet", "(II)I"⟩
abbrev cX4_numberOfAll : ByteArray := prog_6_method_9_code
def yX4_numberOfAll : MethodName := ⟨RX4, "numberOfAll", "(I)I"⟩
abbrev cX4_comparison : ByteArray := prog_6_method_10_code
def yX4_comparison : MethodName := ⟨RX4, "comparison", "(III)I"⟩
abbrev cX4_reasonAgainst : ByteArray := prog_6_method_11_code
def yX4_reasonAgainst : MethodName := ⟨RX4, "reasonAgainst", "(IIZ)I"⟩
abbrev cX4_likeness : ByteArray := prog_6_method_12_code
def yX4_likeness : MethodName := ⟨RX4, "likeness", "(III)I"⟩
abbrev cX4_neededTolerance : ByteArray := prog_6_method_13_code
def yX4_neededTolerance : MethodName := ⟨RX4, "neededTolerance", "(III)I"⟩
abbrev cX4_mostAlike : ByteArray := prog_6_method_14_code
def yX4_mostAlike : MethodName := ⟨RX4, "mostAlike", "(I)I"⟩
abbrev cX4_hands : ByteArray := prog_6_method_15_code
def yX4_hands : MethodName := ⟨RX4, "hands", "()I"⟩
abbrev cX4_shareOfHands : ByteArray := prog_6_method_16_code
def yX4_shareOfHands : MethodName := ⟨RX4, "shareOfHands", "()D"⟩
abbrev cX4_agreeing : ByteArray := prog_6_method_17_code
def yX4_agreeing : MethodName := ⟨RX4, "agreeing", "(III)I"⟩
abbrev cX4_fadedMarks : ByteArray := prog_6_method_18_code
def yX4_fadedMarks : MethodName := ⟨RX4, "fadedMarks", "(I)I"⟩
abbrev cX4_allowance : ByteArray := prog_6_method_19_code
def yX4_allowance : MethodName := ⟨RX4, "allowance", "(II)I"⟩
abbrev cX4_trembles : ByteArray := prog_6_method_20_code
def yX4_trembles : MethodName := ⟨RX4, "trembles", "(I)Z"⟩
abbrev cX4_areOfOneHand : ByteArray := prog_6_method_21_code
def yX4_areOfOneHand : MethodName := ⟨RX4, "areOfOneHand", "(II)Z"⟩
abbrev cX4_mostOfAHand : ByteArray := prog_6_method_22_code
def yX4_mostOfAHand : MethodName := ⟨RX4, "mostOfAHand", "()I"⟩
abbrev cX4_tremblingSheets : ByteArray := prog_6_method_23_code
def yX4_tremblingSheets : MethodName := ⟨RX4, "tremblingSheets", "()I"⟩
abbrev cX4_likePairs : ByteArray := prog_6_method_24_code
def yX4_likePairs : MethodName := ⟨RX4, "likePairs", "()I"⟩
def RX5 : String := "SlantOaths$Text"
def TX5 : u_T := fun k => match k with
  | 0 => ("SlantOaths$Text", "codes", "LSlantOaths$Row;", true)
  | 1 => ("SlantOaths$Text", "length", "I", false)
  | 2 => ("SlantOaths$Text", "place", "I", false)
  | 3 => ("SlantOaths$Text", "isBroken", "Z", false)
  | 4 => ("SlantOaths$Text", "numbers", "LSlantOaths$Row;", true)
  | 5 => ("SlantOaths$Text", "strokes", "I", false)
  | 6 => ("SlantOaths$Text", "kinds", "LSlantOaths$Row;", true)
  | 7 => ("SlantOaths$Text", "firsts", "LSlantOaths$Row;", true)
  | 8 => ("SlantOaths$Text", "seconds", "LSlantOaths$Row;", true)
  | _ => ("SlantOaths$Text", "parts", "I", false)
def tyX5 : Nat → FieldType := fun k => match k with
  | 0 => .object "SlantOaths$Row"
  | 1 => .int
  | 2 => .int
  | 3 => .boolean
  | 4 => .object "SlantOaths$Row"
  | 5 => .int
  | 6 => .object "SlantOaths$Row"
  | 7 => .object "SlantOaths$Row"
  | 8 => .object "SlantOaths$Row"
  | _ => .int
abbrev wsX50 : List Cond := u_ws RX5 TX5 10
theorem nmX5 : ∀ a, a < 10 → ∀ b, b < 10 → a ≠ b → (TX5 a).2.1 ≠ (TX5 b).2.1 := by decide +kernel
theorem tyX5_ok : ∀ k, k < 10 → parseFieldDescriptor (TX5 k).2.2.1 = some (tyX5 k) := by decide +kernel
abbrev cX5_init : ByteArray := prog_7_method_1_code
def yX5_init : MethodName := ⟨RX5, "<init>", "()V"⟩
abbrev cX5_add : ByteArray := prog_7_method_2_code
def yX5_add : MethodName := ⟨RX5, "add", "(I)I"⟩
abbrev cX5_empty : ByteArray := prog_7_method_3_code
def yX5_empty : MethodName := ⟨RX5, "empty", "()V"⟩
abbrev cX5_mixInto : ByteArray := prog_7_method_4_code
def yX5_mixInto : MethodName := ⟨RX5, "mixInto", "(J)J"⟩
abbrev cX5_readSheet : ByteArray := prog_7_method_5_code
def yX5_readSheet : MethodName := ⟨RX5, "readSheet", "()Z"⟩
abbrev cX5_readWorks : ByteArray := prog_7_method_6_code
def yX5_readWorks : MethodName := ⟨RX5, "readWorks", "()Z"⟩
abbrev cX5_begin : ByteArray := prog_7_method_7_code
def yX5_begin : MethodName := ⟨RX5, "begin", "()V"⟩
abbrev cX5_isComplete : ByteArray := prog_7_method_8_code
def yX5_isComplete : MethodName := ⟨RX5, "isComplete", "()Z"⟩
abbrev cX5_readStroke : ByteArray := prog_7_method_9_code
def yX5_readStroke : MethodName := ⟨RX5, "readStroke", "()V"⟩
abbrev cX5_readPart : ByteArray := prog_7_method_10_code
def yX5_readPart : MethodName := ⟨RX5, "readPart", "()V"⟩
abbrev cX5_codeHere : ByteArray := prog_7_method_11_code
def yX5_codeHere : MethodName := ⟨RX5, "codeHere", "()I"⟩
abbrev cX5_digitHere : ByteArray := prog_7_method_12_code
def yX5_digitHere : MethodName := ⟨RX5, "digitHere", "()I"⟩
abbrev cX5_skip : ByteArray := prog_7_method_13_code
def yX5_skip : MethodName := ⟨RX5, "skip", "(I)Z"⟩
abbrev cX5_need : ByteArray := prog_7_method_14_code
def yX5_need : MethodName := ⟨RX5, "need", "(I)V"⟩
abbrev cX5_readNumber : ByteArray := prog_7_method_15_code
def yX5_readNumber : MethodName := ⟨RX5, "readNumber", "(II)I"⟩
def RX6 : String := "SlantOaths"
def TX6 : u_T := fun k => match k with
  | 0 => ("SlantOaths", "text", "LSlantOaths$Text;", true)
  | 1 => ("SlantOaths", "table", "LSlantOaths$Table;", true)
  | 2 => ("SlantOaths", "history", "LSlantOaths$History;", true)
  | 3 => ("SlantOaths", "snapshot", "LSlantOaths$Table;", true)
  | _ => ("SlantOaths", "hasSnapshot", "Z", false)
def tyX6 : Nat → FieldType := fun k => match k with
  | 0 => .object "SlantOaths$Text"
  | 1 => .object "SlantOaths$Table"
  | 2 => .object "SlantOaths$History"
  | 3 => .object "SlantOaths$Table"
  | _ => .boolean
abbrev wsX60 : List Cond := u_ws RX6 TX6 5
theorem nmX6 : ∀ a, a < 5 → ∀ b, b < 5 → a ≠ b → (TX6 a).2.1 ≠ (TX6 b).2.1 := by decide +kernel
theorem tyX6_ok : ∀ k, k < 5 → parseFieldDescriptor (TX6 k).2.2.1 = some (tyX6 k) := by decide +kernel
abbrev cX6_init : ByteArray := prog_1_method_1_code
def yX6_init : MethodName := ⟨RX6, "<init>", "()V"⟩
abbrev cX6_lay : ByteArray := prog_1_method_2_code
def yX6_lay : MethodName := ⟨RX6, "lay", "(I)I"⟩
abbrev cX6_drop : ByteArray := prog_1_method_3_code
def yX6_drop : MethodName := ⟨RX6, "drop", "(I)I"⟩
abbrev cX6_pass : ByteArray := prog_1_method_4_code
def yX6_pass : MethodName := ⟨RX6, "pass", "(I)I"⟩
abbrev cX6_set : ByteArray := prog_1_method_5_code
def yX6_set : MethodName := ⟨RX6, "set", "(II)I"⟩
abbrev cX6_swear : ByteArray := prog_1_method_6_code
def yX6_swear : MethodName := ⟨RX6, "swear", "(IIZ)I"⟩
abbrev cX6_recant : ByteArray := prog_1_method_7_code
def yX6_recant : MethodName := ⟨RX6, "recant", "(II)I"⟩
abbrev cX6_append : ByteArray := prog_1_method_8_code
def yX6_append : MethodName := ⟨RX6, "append", "(I)I"⟩
abbrev cX6_clearBuffer : ByteArray := prog_1_method_9_code
def yX6_clearBuffer : MethodName := ⟨RX6, "clearBuffer", "()I"⟩
abbrev cX6_firstError : ByteArray := prog_1_method_10_code
def yX6_firstError : MethodName := ⟨RX6, "firstError", "(Z)I"⟩
abbrev cX6_work : ByteArray := prog_1_method_11_code
def yX6_work : MethodName := ⟨RX6, "work", "()I"⟩
abbrev cX6_stopped : ByteArray := prog_1_method_12_code
def yX6_stopped : MethodName := ⟨RX6, "stopped", "(I)I"⟩
abbrev cX6_undo : ByteArray := prog_1_method_13_code
def yX6_undo : MethodName := ⟨RX6, "undo", "()I"⟩
abbrev cX6_keep : ByteArray := prog_1_method_14_code
def yX6_keep : MethodName := ⟨RX6, "keep", "()I"⟩
abbrev cX6_restore : ByteArray := prog_1_method_15_code
def yX6_restore : MethodName := ⟨RX6, "restore", "()I"⟩
abbrev cX6_sheet : ByteArray := prog_1_method_16_code
def yX6_sheet : MethodName := ⟨RX6, "sheet", "(II)I"⟩
abbrev cX6_stroke : ByteArray := prog_1_method_17_code
def yX6_stroke : MethodName := ⟨RX6, "stroke", "(III)I"⟩
abbrev cX6_mark : ByteArray := prog_1_method_18_code
def yX6_mark : MethodName := ⟨RX6, "mark", "(II)I"⟩
abbrev cX6_compare : ByteArray := prog_1_method_19_code
def yX6_compare : MethodName := ⟨RX6, "compare", "(III)I"⟩
abbrev cX6_oath : ByteArray := prog_1_method_20_code
def yX6_oath : MethodName := ⟨RX6, "oath", "(II)I"⟩
abbrev cX6_count : ByteArray := prog_1_method_21_code
def yX6_count : MethodName := ⟨RX6, "count", "(I)I"⟩
abbrev cX6_whyNot : ByteArray := prog_1_method_22_code
def yX6_whyNot : MethodName := ⟨RX6, "whyNot", "(IIZ)I"⟩
abbrev cX6_nearest : ByteArray := prog_1_method_23_code
def yX6_nearest : MethodName := ⟨RX6, "nearest", "(I)I"⟩
abbrev cX6_toleranceFor : ByteArray := prog_1_method_24_code
def yX6_toleranceFor : MethodName := ⟨RX6, "toleranceFor", "(III)I"⟩
abbrev cX6_ifPassed : ByteArray := prog_1_method_25_code
def yX6_ifPassed : MethodName := ⟨RX6, "ifPassed", "(III)I"⟩
abbrev cX6_handShare : ByteArray := prog_1_method_26_code
def yX6_handShare : MethodName := ⟨RX6, "handShare", "()D"⟩
abbrev cX6_digest : ByteArray := prog_1_method_27_code
def yX6_digest : MethodName := ⟨RX6, "digest", "()J"⟩
abbrev cX6_isThere : ByteArray := prog_1_method_28_code
def yX6_isThere : MethodName := ⟨RX6, "isThere", "(I)Z"⟩
abbrev cX6_areThere : ByteArray := prog_1_method_29_code
def yX6_areThere : MethodName := ⟨RX6, "areThere", "(II)Z"⟩
abbrev cX6_doPart : ByteArray := prog_1_method_30_code
def yX6_doPart : MethodName := ⟨RX6, "doPart", "(I)Z"⟩
abbrev cX6_swearPart : ByteArray := prog_1_method_31_code
def yX6_swearPart : MethodName := ⟨RX6, "swearPart", "(IIZ)I"⟩
abbrev cX6_toldCount : ByteArray := prog_1_method_32_code
def yX6_toldCount : MethodName := ⟨RX6, "toldCount", "(I)I"⟩
abbrev cX6_mixSheet : ByteArray := prog_1_method_33_code
def yX6_mixSheet : MethodName := ⟨RX6, "mixSheet", "(JI)J"⟩
abbrev cX6_mixPair : ByteArray := prog_1_method_34_code
def yX6_mixPair : MethodName := ⟨RX6, "mixPair", "(JII)J"⟩
abbrev cX6_mix : ByteArray := prog_1_method_35_code
def yX6_mix : MethodName := ⟨RX6, "mix", "(JJ)J"⟩
abbrev cX6_bitsOf : ByteArray := prog_1_method_36_code
def yX6_bitsOf : MethodName := ⟨RX6, "bitsOf", "(D)J"⟩
def RX7 : String := "SlantOathsModel"
def TX7 : u_T := fun k => match k with
  | 0 => ("SlantOathsModel", "thrown", "I", false)
  | 1 => ("SlantOathsModel", "state", "[I", true)
  | 2 => ("SlantOathsModel", "spare", "[I", true)
  | 3 => ("SlantOathsModel", "saved", "[I", true)
  | 4 => ("SlantOathsModel", "savedMany", "I", false)
  | 5 => ("SlantOathsModel", "snapshot", "[I", true)
  | 6 => ("SlantOathsModel", "hasSnapshot", "Z", false)
  | 7 => ("SlantOathsModel", "buffer", "[I", true)
  | 8 => ("SlantOathsModel", "length", "I", false)
  | 9 => ("SlantOathsModel", "at", "I", false)
  | 10 => ("SlantOathsModel", "sign", "I", false)
  | 11 => ("SlantOathsModel", "first", "I", false)
  | 12 => ("SlantOathsModel", "second", "I", false)
  | 13 => ("SlantOathsModel", "strokes", "[I", true)
  | 14 => ("SlantOathsModel", "many", "I", false)
  | 15 => ("SlantOathsModel", "hand", "[I", true)
  | _ => ("SlantOathsModel", "hash", "J", false)
def tyX7 : Nat → FieldType := fun k => match k with
  | 0 => .int
  | 1 => .array .int
  | 2 => .array .int
  | 3 => .array .int
  | 4 => .int
  | 5 => .array .int
  | 6 => .boolean
  | 7 => .array .int
  | 8 => .int
  | 9 => .int
  | 10 => .int
  | 11 => .int
  | 12 => .int
  | 13 => .array .int
  | 14 => .int
  | 15 => .array .int
  | _ => .long
abbrev wsX70 : List Cond := u_ws RX7 TX7 17
theorem nmX7 : ∀ a, a < 17 → ∀ b, b < 17 → a ≠ b → (TX7 a).2.1 ≠ (TX7 b).2.1 := by decide +kernel
theorem tyX7_ok : ∀ k, k < 17 → parseFieldDescriptor (TX7 k).2.2.1 = some (tyX7 k) := by decide +kernel
abbrev cX7_init : ByteArray := prog_9_method_1_code
def yX7_init : MethodName := ⟨RX7, "<init>", "()V"⟩
abbrev cX7_thrown : ByteArray := prog_9_method_2_code
def yX7_thrown : MethodName := ⟨RX7, "thrown", "()I"⟩
abbrev cX7_fails : ByteArray := prog_9_method_3_code
def yX7_fails : MethodName := ⟨RX7, "fails", "(I)I"⟩
abbrev cX7_within : ByteArray := prog_9_method_4_code
def yX7_within : MethodName := ⟨RX7, "within", "(III)Z"⟩
abbrev cX7_sizeOf : ByteArray := prog_9_method_5_code
def yX7_sizeOf : MethodName := ⟨RX7, "sizeOf", "(I)I"⟩
abbrev cX7_isSheet : ByteArray := prog_9_method_6_code
def yX7_isSheet : MethodName := ⟨RX7, "isSheet", "(I)Z"⟩
abbrev cX7_of : ByteArray := prog_9_method_7_code
def yX7_of : MethodName := ⟨RX7, "of", "(II)I"⟩
abbrev cX7_ofStroke : ByteArray := prog_9_method_8_code
def yX7_ofStroke : MethodName := ⟨RX7, "ofStroke", "(III)I"⟩
abbrev cX7_ofOath : ByteArray := prog_9_method_9_code
def yX7_ofOath : MethodName := ⟨RX7, "ofOath", "(II)I"⟩
abbrev cX7_save : ByteArray := prog_9_method_10_code
def yX7_save : MethodName := ⟨RX7, "save", "()V"⟩
abbrev cX7_undo : ByteArray := prog_9_method_11_code
def yX7_undo : MethodName := ⟨RX7, "undo", "()I"⟩
abbrev cX7_keep : ByteArray := prog_9_method_12_code
def yX7_keep : MethodName := ⟨RX7, "keep", "()I"⟩
abbrev cX7_restore : ByteArray := prog_9_method_13_code
def yX7_restore : MethodName := ⟨RX7, "restore", "()I"⟩
abbrev cX7_putAside : ByteArray := prog_9_method_14_code
def yX7_putAside : MethodName := ⟨RX7, "putAside", "()V"⟩
abbrev cX7_takeBack : ByteArray := prog_9_method_15_code
def yX7_takeBack : MethodName := ⟨RX7, "takeBack", "()V"⟩
abbrev cX7_divided : ByteArray := prog_9_method_16_code
def yX7_divided : MethodName := ⟨RX7, "divided", "(II)I"⟩
abbrev cX7_sumOf : ByteArray := prog_9_method_17_code
def yX7_sumOf : MethodName := ⟨RX7, "sumOf", "(II)I"⟩
abbrev cX7_spread : ByteArray := prog_9_method_18_code
def yX7_spread : MethodName := ⟨RX7, "spread", "(I)I"⟩
abbrev cX7_loopHeight : ByteArray := prog_9_method_19_code
def yX7_loopHeight : MethodName := ⟨RX7, "loopHeight", "(I)I"⟩
abbrev cX7_unrest : ByteArray := prog_9_method_20_code
def yX7_unrest : MethodName := ⟨RX7, "unrest", "(I)I"⟩
abbrev cX7_markOf : ByteArray := prog_9_method_21_code
def yX7_markOf : MethodName := ⟨RX7, "markOf", "(II)I"⟩
abbrev cX7_hasFaded : ByteArray := prog_9_method_22_code
def yX7_hasFaded : MethodName := ⟨RX7, "hasFaded", "(I)Z"⟩
abbrev cX7_isGone : ByteArray := prog_9_method_23_code
def yX7_isGone : MethodName := ⟨RX7, "isGone", "(III)Z"⟩
abbrev cX7_differ : ByteArray := prog_9_method_24_code
def yX7_differ : MethodName := ⟨RX7, "differ", "(III)I"⟩
abbrev cX7_agreeing : ByteArray := prog_9_method_25_code
def yX7_agreeing : MethodName := ⟨RX7, "agreeing", "(II)I"⟩
abbrev cX7_ones : ByteArray := prog_9_method_26_code
def yX7_ones : MethodName := ⟨RX7, "ones", "(I)I"⟩
abbrev cX7_likeness : ByteArray := prog_9_method_27_code
def yX7_likeness : MethodName := ⟨RX7, "likeness", "(II)I"⟩
abbrev cX7_trembles : ByteArray := prog_9_method_28_code
def yX7_trembles : MethodName := ⟨RX7, "trembles", "(I)Z"⟩
abbrev cX7_join : ByteArray := prog_9_method_29_code
def yX7_join : MethodName := ⟨RX7, "join", "(II)V"⟩
abbrev cX7_layHands : ByteArray := prog_9_method_30_code
def yX7_layHands : MethodName := ⟨RX7, "layHands", "(I)V"⟩
abbrev cX7_hands : ByteArray := prog_9_method_31_code
def yX7_hands : MethodName := ⟨RX7, "hands", "()I"⟩
abbrev cX7_areOfOne : ByteArray := prog_9_method_32_code
def yX7_areOfOne : MethodName := ⟨RX7, "areOfOne", "(II)Z"⟩
abbrev cX7_findOath : ByteArray := prog_9_method_33_code
def yX7_findOath : MethodName := ⟨RX7, "findOath", "(II)I"⟩
abbrev cX7_breaks : ByteArray := prog_9_method_34_code
def yX7_breaks : MethodName := ⟨RX7, "breaks", "(II)Z"⟩
abbrev cX7_whyNotSworn : ByteArray := prog_9_method_35_code
def yX7_whyNotSworn : MethodName := ⟨RX7, "whyNotSworn", "(IIZ)I"⟩
abbrev cX7_swears : ByteArray := prog_9_method_36_code
def yX7_swears : MethodName := ⟨RX7, "swears", "(IIZ)I"⟩
abbrev cX7_dropOath : ByteArray := prog_9_method_37_code
def yX7_dropOath : MethodName := ⟨RX7, "dropOath", "(I)V"⟩
abbrev cX7_holds : ByteArray := prog_9_method_38_code
def yX7_holds : MethodName := ⟨RX7, "holds", "(I)Z"⟩
abbrev cX7_drops : ByteArray := prog_9_method_39_code
def yX7_drops : MethodName := ⟨RX7, "drops", "(I)I"⟩
abbrev cX7_passes : ByteArray := prog_9_method_40_code
def yX7_passes : MethodName := ⟨RX7, "passes", "(I)I"⟩
abbrev cX7_lay : ByteArray := prog_9_method_41_code
def yX7_lay : MethodName := ⟨RX7, "lay", "(I)I"⟩
abbrev cX7_drop : ByteArray := prog_9_method_42_code
def yX7_drop : MethodName := ⟨RX7, "drop", "(I)I"⟩
abbrev cX7_pass : ByteArray := prog_9_method_43_code
def yX7_pass : MethodName := ⟨RX7, "pass", "(I)I"⟩
abbrev cX7_mostOf : ByteArray := prog_9_method_44_code
def yX7_mostOf : MethodName := ⟨RX7, "mostOf", "(I)I"⟩
abbrev cX7_set : ByteArray := prog_9_method_45_code
def yX7_set : MethodName := ⟨RX7, "set", "(II)I"⟩
abbrev cX7_swear : ByteArray := prog_9_method_46_code
def yX7_swear : MethodName := ⟨RX7, "swear", "(IIZ)I"⟩
abbrev cX7_recant : ByteArray := prog_9_method_47_code
def yX7_recant : MethodName := ⟨RX7, "recant", "(II)I"⟩
abbrev cX7_append : ByteArray := prog_9_method_48_code
def yX7_append : MethodName := ⟨RX7, "append", "(I)I"⟩
abbrev cX7_clearBuffer : ByteArray := prog_9_method_49_code
def yX7_clearBuffer : MethodName := ⟨RX7, "clearBuffer", "()I"⟩
abbrev cX7_next : ByteArray := prog_9_method_50_code
def yX7_next : MethodName := ⟨RX7, "next", "()I"⟩
abbrev cX7_takes : ByteArray := prog_9_method_51_code
def yX7_takes : MethodName := ⟨RX7, "takes", "(I)Z"⟩
abbrev cX7_readNumber : ByteArray := prog_9_method_52_code
def yX7_readNumber : MethodName := ⟨RX7, "readNumber", "(II)I"⟩
abbrev cX7_readsStroke : ByteArray := prog_9_method_53_code
def yX7_readsStroke : MethodName := ⟨RX7, "readsStroke", "()Z"⟩
abbrev cX7_findSheetError : ByteArray := prog_9_method_54_code
def yX7_findSheetError : MethodName := ⟨RX7, "findSheetError", "()I"⟩
abbrev cX7_isSheetText : ByteArray := prog_9_method_55_code
def yX7_isSheetText : MethodName := ⟨RX7, "isSheetText", "()Z"⟩
abbrev cX7_readsPart : ByteArray := prog_9_method_56_code
def yX7_readsPart : MethodName := ⟨RX7, "readsPart", "()Z"⟩
abbrev cX7_findWorksError : ByteArray := prog_9_method_57_code
def yX7_findWorksError : MethodName := ⟨RX7, "findWorksError", "()I"⟩
abbrev cX7_firstError : ByteArray := prog_9_method_58_code
def yX7_firstError : MethodName := ⟨RX7, "firstError", "(Z)I"⟩
abbrev cX7_whyNotPart : ByteArray := prog_9_method_59_code
def yX7_whyNotPart : MethodName := ⟨RX7, "whyNotPart", "()I"⟩
abbrev cX7_doPart : ByteArray := prog_9_method_60_code
def yX7_doPart : MethodName := ⟨RX7, "doPart", "()V"⟩
abbrev cX7_work : ByteArray := prog_9_method_61_code
def yX7_work : MethodName := ⟨RX7, "work", "()I"⟩
abbrev cX7_stopped : ByteArray := prog_9_method_62_code
def yX7_stopped : MethodName := ⟨RX7, "stopped", "(I)I"⟩
abbrev cX7_handOf : ByteArray := prog_9_method_63_code
def yX7_handOf : MethodName := ⟨RX7, "handOf", "(I)I"⟩
abbrev cX7_oathsOf : ByteArray := prog_9_method_64_code
def yX7_oathsOf : MethodName := ⟨RX7, "oathsOf", "(I)I"⟩
abbrev cX7_tellsSheet : ByteArray := prog_9_method_65_code
def yX7_tellsSheet : MethodName := ⟨RX7, "tellsSheet", "(II)I"⟩
abbrev cX7_sheet : ByteArray := prog_9_method_66_code
def yX7_sheet : MethodName := ⟨RX7, "sheet", "(II)I"⟩
abbrev cX7_tellsStroke : ByteArray := prog_9_method_67_code
def yX7_tellsStroke : MethodName := ⟨RX7, "tellsStroke", "(III)I"⟩
abbrev cX7_stroke : ByteArray := prog_9_method_68_code
def yX7_stroke : MethodName := ⟨RX7, "stroke", "(III)I"⟩
abbrev cX7_mark : ByteArray := prog_9_method_69_code
def yX7_mark : MethodName := ⟨RX7, "mark", "(II)I"⟩
abbrev cX7_tellsOathOf : ByteArray := prog_9_method_70_code
def yX7_tellsOathOf : MethodName := ⟨RX7, "tellsOathOf", "(II)I"⟩
abbrev cX7_compares : ByteArray := prog_9_method_71_code
def yX7_compares : MethodName := ⟨RX7, "compares", "(III)I"⟩
abbrev cX7_compare : ByteArray := prog_9_method_72_code
def yX7_compare : MethodName := ⟨RX7, "compare", "(III)I"⟩
abbrev cX7_tellsOath : ByteArray := prog_9_method_73_code
def yX7_tellsOath : MethodName := ⟨RX7, "tellsOath", "(II)I"⟩
abbrev cX7_oath : ByteArray := prog_9_method_74_code
def yX7_oath : MethodName := ⟨RX7, "oath", "(II)I"⟩
abbrev cX7_likeOaths : ByteArray := prog_9_method_75_code
def yX7_likeOaths : MethodName := ⟨RX7, "likeOaths", "()I"⟩
abbrev cX7_mostOfHand : ByteArray := prog_9_method_76_code
def yX7_mostOfHand : MethodName := ⟨RX7, "mostOfHand", "()I"⟩
abbrev cX7_trembling : ByteArray := prog_9_method_77_code
def yX7_trembling : MethodName := ⟨RX7, "trembling", "()I"⟩
abbrev cX7_likePairs : ByteArray := prog_9_method_78_code
def yX7_likePairs : MethodName := ⟨RX7, "likePairs", "()I"⟩
abbrev cX7_tellsCount : ByteArray := prog_9_method_79_code
def yX7_tellsCount : MethodName := ⟨RX7, "tellsCount", "(I)I"⟩
abbrev cX7_count : ByteArray := prog_9_method_80_code
def yX7_count : MethodName := ⟨RX7, "count", "(I)I"⟩
abbrev cX7_whyNot : ByteArray := prog_9_method_81_code
def yX7_whyNot : MethodName := ⟨RX7, "whyNot", "(IIZ)I"⟩
abbrev cX7_mostAlike : ByteArray := prog_9_method_82_code
def yX7_mostAlike : MethodName := ⟨RX7, "mostAlike", "(I)I"⟩
abbrev cX7_nearest : ByteArray := prog_9_method_83_code
def yX7_nearest : MethodName := ⟨RX7, "nearest", "(I)I"⟩
abbrev cX7_tolerance : ByteArray := prog_9_method_84_code
def yX7_tolerance : MethodName := ⟨RX7, "tolerance", "(III)I"⟩
abbrev cX7_toleranceFor : ByteArray := prog_9_method_85_code
def yX7_toleranceFor : MethodName := ⟨RX7, "toleranceFor", "(III)I"⟩
abbrev cX7_wouldPass : ByteArray := prog_9_method_86_code
def yX7_wouldPass : MethodName := ⟨RX7, "wouldPass", "(III)I"⟩
abbrev cX7_ifPassed : ByteArray := prog_9_method_87_code
def yX7_ifPassed : MethodName := ⟨RX7, "ifPassed", "(III)I"⟩
abbrev cX7_share : ByteArray := prog_9_method_88_code
def yX7_share : MethodName := ⟨RX7, "share", "()D"⟩
abbrev cX7_handShare : ByteArray := prog_9_method_89_code
def yX7_handShare : MethodName := ⟨RX7, "handShare", "()D"⟩
abbrev cX7_mix : ByteArray := prog_9_method_90_code
def yX7_mix : MethodName := ⟨RX7, "mix", "(J)V"⟩
abbrev cX7_mixSheet : ByteArray := prog_9_method_91_code
def yX7_mixSheet : MethodName := ⟨RX7, "mixSheet", "(I)V"⟩
abbrev cX7_digest : ByteArray := prog_9_method_92_code
def yX7_digest : MethodName := ⟨RX7, "digest", "()J"⟩
def RJxe99ae : String := "java/lang/Double"
def TJxe99ae : u_T := fun k => match k with
  | _ => ("", "", "", false)
def tyJxe99ae : Nat → FieldType := fun k => match k with
  | _ => .int
abbrev wsJxe99ae0 : List Cond := u_ws RJxe99ae TJxe99ae 0
theorem nmJxe99ae : ∀ a, a < 0 → ∀ b, b < 0 → a ≠ b → (TJxe99ae a).2.1 ≠ (TJxe99ae b).2.1 := by decide +kernel
theorem tyJxe99ae_ok : ∀ k, k < 0 → parseFieldDescriptor (TJxe99ae k).2.2.1 = some (tyJxe99ae k) := by decide +kernel
abbrev cJxe99ae_isNaN_b9ae7 : ByteArray := prog_10_method_6_code
def yJxe99ae_isNaN_b9ae7 : MethodName := ⟨RJxe99ae, "isNaN", "(D)Z"⟩
abbrev cJxe99ae_doubleToLongBits_ccdee : ByteArray := prog_10_method_23_code
def yJxe99ae_doubleToLongBits_ccdee : MethodName := ⟨RJxe99ae, "doubleToLongBits", "(D)J"⟩
def RJ6 : String := "java/lang/Integer"
def TJ6 : u_T := fun k => match k with
  | _ => ("", "", "", false)
def tyJ6 : Nat → FieldType := fun k => match k with
  | _ => .int
abbrev wsJ60 : List Cond := u_ws RJ6 TJ6 0
theorem nmJ6 : ∀ a, a < 0 → ∀ b, b < 0 → a ≠ b → (TJ6 a).2.1 ≠ (TJ6 b).2.1 := by decide +kernel
theorem tyJ6_ok : ∀ k, k < 0 → parseFieldDescriptor (TJ6 k).2.2.1 = some (tyJ6 k) := by decide +kernel
abbrev cJ6_bitCount_0f7a4 : ByteArray := prog_15_method_49_code
def yJ6_bitCount_0f7a4 : MethodName := ⟨RJ6, "bitCount", "(I)I"⟩
def RJ9 : String := "java/lang/Math"
def TJ9 : u_T := fun k => match k with
  | _ => ("", "", "", false)
def tyJ9 : Nat → FieldType := fun k => match k with
  | _ => .int
abbrev wsJ90 : List Cond := u_ws RJ9 TJ9 0
theorem nmJ9 : ∀ a, a < 0 → ∀ b, b < 0 → a ≠ b → (TJ9 a).2.1 ≠ (TJ9 b).2.1 := by decide +kernel
theorem tyJ9_ok : ∀ k, k < 0 → parseFieldDescriptor (TJ9 k).2.2.1 = some (tyJ9 k) := by decide +kernel
abbrev cJ9_floorDiv_7cf53 : ByteArray := prog_16_method_47_code
def yJ9_floorDiv_7cf53 : MethodName := ⟨RJ9, "floorDiv", "(II)I"⟩
abbrev cJ9_abs_0f7a4 : ByteArray := prog_16_method_59_code
def yJ9_abs_0f7a4 : MethodName := ⟨RJ9, "abs", "(I)I"⟩
abbrev cJ9_max_7cf53 : ByteArray := prog_16_method_65_code
def yJ9_max_7cf53 : MethodName := ⟨RJ9, "max", "(II)I"⟩
abbrev cJ9_min_7cf53 : ByteArray := prog_16_method_69_code
def yJ9_min_7cf53 : MethodName := ⟨RJ9, "min", "(II)I"⟩
def RJ0 : String := "java/lang/String"
def TJ0 : u_T := fun k => match k with
  | _ => ("", "", "", false)
def tyJ0 : Nat → FieldType := fun k => match k with
  | _ => .int
abbrev wsJ00 : List Cond := u_ws RJ0 TJ0 0
theorem nmJ0 : ∀ a, a < 0 → ∀ b, b < 0 → a ≠ b → (TJ0 a).2.1 ≠ (TJ0 b).2.1 := by decide +kernel
theorem tyJ0_ok : ∀ k, k < 0 → parseFieldDescriptor (TJ0 k).2.2.1 = some (tyJ0 k) := by decide +kernel
def RL : String := "SlantOathsLaw"
abbrev cL_lay : ByteArray := method_3_code
def yL_lay : MethodName := ⟨RL, "lay", "(LSlantOaths;I[J)I"⟩
abbrev cL_drop : ByteArray := method_4_code
def yL_drop : MethodName := ⟨RL, "drop", "(LSlantOaths;I[J)I"⟩
abbrev cL_pass : ByteArray := method_5_code
def yL_pass : MethodName := ⟨RL, "pass", "(LSlantOaths;I[J)I"⟩
abbrev cL_set : ByteArray := method_6_code
def yL_set : MethodName := ⟨RL, "set", "(LSlantOaths;II[J)I"⟩
abbrev cL_swear : ByteArray := method_7_code
def yL_swear : MethodName := ⟨RL, "swear", "(LSlantOaths;IIZ[J)I"⟩
abbrev cL_recant : ByteArray := method_8_code
def yL_recant : MethodName := ⟨RL, "recant", "(LSlantOaths;II[J)I"⟩
abbrev cL_append : ByteArray := method_9_code
def yL_append : MethodName := ⟨RL, "append", "(LSlantOaths;I[J)I"⟩
abbrev cL_work : ByteArray := method_10_code
def yL_work : MethodName := ⟨RL, "work", "(LSlantOaths;[J)I"⟩
abbrev cL_stopped : ByteArray := method_11_code
def yL_stopped : MethodName := ⟨RL, "stopped", "(LSlantOaths;I[J)I"⟩
abbrev cL_undo : ByteArray := method_12_code
def yL_undo : MethodName := ⟨RL, "undo", "(LSlantOaths;[J)I"⟩
abbrev cL_restore : ByteArray := method_13_code
def yL_restore : MethodName := ⟨RL, "restore", "(LSlantOaths;[J)I"⟩
abbrev cL_sheet : ByteArray := method_14_code
def yL_sheet : MethodName := ⟨RL, "sheet", "(LSlantOaths;II[J)I"⟩
abbrev cL_stroke : ByteArray := method_15_code
def yL_stroke : MethodName := ⟨RL, "stroke", "(LSlantOaths;III[J)I"⟩
abbrev cL_mark : ByteArray := method_16_code
def yL_mark : MethodName := ⟨RL, "mark", "(LSlantOaths;II[J)I"⟩
abbrev cL_compare : ByteArray := method_17_code
def yL_compare : MethodName := ⟨RL, "compare", "(LSlantOaths;III[J)I"⟩
abbrev cL_oath : ByteArray := method_18_code
def yL_oath : MethodName := ⟨RL, "oath", "(LSlantOaths;II[J)I"⟩
abbrev cL_count : ByteArray := method_19_code
def yL_count : MethodName := ⟨RL, "count", "(LSlantOaths;I[J)I"⟩
abbrev cL_whyNot : ByteArray := method_20_code
def yL_whyNot : MethodName := ⟨RL, "whyNot", "(LSlantOaths;IIZ[J)I"⟩
abbrev cL_nearest : ByteArray := method_21_code
def yL_nearest : MethodName := ⟨RL, "nearest", "(LSlantOaths;I[J)I"⟩
abbrev cL_toleranceFor : ByteArray := method_22_code
def yL_toleranceFor : MethodName := ⟨RL, "toleranceFor", "(LSlantOaths;III[J)I"⟩
abbrev cL_ifPassed : ByteArray := method_23_code
def yL_ifPassed : MethodName := ⟨RL, "ifPassed", "(LSlantOaths;III[J)I"⟩
abbrev cL_law : ByteArray := code
def yL_law : MethodName := ⟨RL, "law", "([I)Z"⟩
def wsL_law0_r1 : List Cond := [Cond.classLink RL 8 RX6, Cond.instantiable RX6 5, Cond.initialized RX6, Cond.classLink RL 84 RX7, Cond.instantiable RX7 17, Cond.initialized RX7, Cond.arrayClass .long, Cond.methodLink RL 83 yX6_init, Cond.instanceMethod yX6_init, Cond.code yX6_init cX6_init 1 none, Cond.methodLink RX6 1 objectInit, Cond.instanceMethod objectInit, Cond.code objectInit ⟨#[0xb1]⟩ 1 none, Cond.classLink RX6 7 RX5, Cond.instantiable RX5 10, Cond.initialized RX5, Cond.fieldLink RX6 10 "SlantOaths" "text" "LSlantOaths$Text;", Cond.classLink RX6 16 RX4, Cond.instantiable RX4 8, Cond.initialized RX4, Cond.fieldLink RX6 19 "SlantOaths" "table" "LSlantOaths$Table;", Cond.classLink RX6 23 RX0, Cond.instantiable RX0 3, Cond.initialized RX0]
def wsL_law0_r2 : List Cond := [Cond.fieldLink RX6 26 "SlantOaths" "history" "LSlantOaths$History;", Cond.fieldLink RX6 30 "SlantOaths" "snapshot" "LSlantOaths$Table;", Cond.fieldLink RX6 33 "SlantOaths" "hasSnapshot" "Z", Cond.instanceMethod yX5_init, Cond.code yX5_init cX5_init 1 none, Cond.methodLink RX5 3 objectInit, Cond.classLink RX5 9 RX2, Cond.instantiable RX2 1, Cond.initialized RX2, Cond.fieldLink RX5 14 "SlantOaths$Text" "codes" "LSlantOaths$Row;", Cond.fieldLink RX5 20 "SlantOaths$Text" "numbers" "LSlantOaths$Row;", Cond.fieldLink RX5 23 "SlantOaths$Text" "kinds" "LSlantOaths$Row;", Cond.fieldLink RX5 26 "SlantOaths$Text" "firsts" "LSlantOaths$Row;", Cond.fieldLink RX5 29 "SlantOaths$Text" "seconds" "LSlantOaths$Row;", Cond.methodLink RX5 11 yX2_init, Cond.instanceMethod yX2_init, Cond.code yX2_init cX2_init 2 none, Cond.methodLink RX2 1 objectInit, Cond.arrayClass .int, Cond.fieldLink RX2 7 "SlantOaths$Row" "cells" "[I", Cond.methodLink RX6 18 yX4_init, Cond.instanceMethod yX4_init, Cond.code yX4_init cX4_init 2 none, Cond.methodLink RX4 3 objectInit]
def wsL_law0_r3 : List Cond := [Cond.classLink RX4 9 RX3, Cond.instantiable RX3 3, Cond.initialized RX3, Cond.fieldLink RX4 14 "SlantOaths$Table" "blank" "LSlantOaths$Sheet;", Cond.fieldLink RX4 20 "SlantOaths$Table" "sheets" "[LSlantOaths$Sheet;", Cond.classLink RX4 24 RX2, Cond.fieldLink RX4 29 "SlantOaths$Table" "ages" "LSlantOaths$Row;", Cond.classLink RX4 33 RX1, Cond.instantiable RX1 6, Cond.initialized RX1, Cond.fieldLink RX4 36 "SlantOaths$Table" "oaths" "LSlantOaths$Oaths;", Cond.fieldLink RX4 40 "SlantOaths$Table" "settings" "LSlantOaths$Row;", Cond.fieldLink RX4 43 "SlantOaths$Table" "stopPart" "I", Cond.fieldLink RX4 47 "SlantOaths$Table" "stopReason" "I", Cond.methodLink RX4 11 yX3_init, Cond.instanceMethod yX3_init, Cond.code yX3_init cX3_init 3 none, Cond.methodLink RX3 3 objectInit, Cond.classLink RX3 9 RX2, Cond.fieldLink RX3 14 "SlantOaths$Sheet" "marks" "LSlantOaths$Row;", Cond.fieldLink RX3 20 "SlantOaths$Sheet" "strokes" "I", Cond.fieldLink RX3 24 "SlantOaths$Sheet" "numbers" "LSlantOaths$Row;", Cond.methodLink RX3 11 yX2_init, Cond.methodLink RX3 27 yX2_copyFrom]
def wsL_law0_r4 : List Cond := [Cond.instanceMethod yX2_copyFrom, Cond.selects RX2 yX2_copyFrom yX2_copyFrom, Cond.code yX2_copyFrom cX2_copyFrom 3 none, Cond.methodLink RX4 26 yX2_init, Cond.instanceMethod yX1_init, Cond.code yX1_init cX1_init 1 none, Cond.methodLink RX1 3 objectInit, Cond.classLink RX1 9 RX2, Cond.fieldLink RX1 14 "SlantOaths$Oaths" "firsts" "LSlantOaths$Row;", Cond.fieldLink RX1 20 "SlantOaths$Oaths" "seconds" "LSlantOaths$Row;", Cond.fieldLink RX1 23 "SlantOaths$Oaths" "likes" "LSlantOaths$Row;", Cond.fieldLink RX1 26 "SlantOaths$Oaths" "hands" "LSlantOaths$Row;", Cond.methodLink RX1 11 yX2_init, Cond.methodLink RX4 54 yX2_put, Cond.instanceMethod yX2_put, Cond.selects RX2 yX2_put yX2_put, Cond.code yX2_put cX2_put 3 none, Cond.instanceMethod yX1_joinHands, Cond.selects RX1 yX1_joinHands yX1_joinHands, Cond.code yX1_joinHands cX1_joinHands 2 none, Cond.fieldLink RX1 29 "SlantOaths$Oaths" "size" "I", Cond.methodLink RX1 40 yX2_put, Cond.methodLink RX1 54 yX2_at, Cond.instanceMethod yX2_at]
def wsL_law0_r5 : List Cond := [Cond.selects RX2 yX2_at yX2_at, Cond.code yX2_at cX2_at 2 (some .int), Cond.methodLink RX1 79 yX1_joinTwo, Cond.instanceMethod yX1_joinTwo, Cond.selects RX1 yX1_joinTwo yX1_joinTwo, Cond.code yX1_joinTwo cX1_joinTwo 5 none, Cond.methodLink RX1 82 Lib.Math.min.name, Cond.static Lib.Math.min.name, Cond.initialized "java/lang/Math", Cond.code Lib.Math.min.name Lib.Math.min.code 2 (some .int), Cond.methodLink RX6 25 yX0_init, Cond.instanceMethod yX0_init, Cond.code yX0_init cX0_init 2 none, Cond.methodLink RX0 3 objectInit, Cond.classLink RX0 9 RX4, Cond.fieldLink RX0 11 "SlantOaths$History" "slots" "[LSlantOaths$Table;", Cond.methodLink RX0 17 yX4_init, Cond.methodLink RL 86 yX7_init, Cond.instanceMethod yX7_init, Cond.code yX7_init cX7_init 1 none, Cond.methodLink RX7 1 objectInit, Cond.fieldLink RX7 7 "SlantOathsModel" "state" "[I", Cond.fieldLink RX7 13 "SlantOathsModel" "spare" "[I", Cond.fieldLink RX7 16 "SlantOathsModel" "saved" "[I"]
def wsL_law0_r6 : List Cond := [Cond.fieldLink RX7 19 "SlantOathsModel" "snapshot" "[I", Cond.fieldLink RX7 22 "SlantOathsModel" "buffer" "[I", Cond.fieldLink RX7 25 "SlantOathsModel" "strokes" "[I", Cond.fieldLink RX7 28 "SlantOathsModel" "hand" "[I", Cond.methodLink RL 87 yL_lay, Cond.static yL_lay, Cond.initialized RL, Cond.codeWith yL_lay cL_lay 4 (some .int) [(0, 9, 12, 13), (0, 9, 15, 15)], Cond.classLink RL 13 "java/lang/IllegalArgumentException", Cond.classLink RL 15 "java/lang/IllegalStateException", Cond.methodLink RL 7 yX6_lay, Cond.instanceMethod yX6_lay, Cond.selects RX6 yX6_lay yX6_lay, Cond.code yX6_lay cX6_lay 4 (some .int), Cond.classLink RX6 41 "java/lang/IllegalArgumentException", Cond.initialized "java/lang/IllegalArgumentException", Cond.classLink RX6 52 "java/lang/IllegalStateException", Cond.initialized "java/lang/IllegalStateException", Cond.classLink RX6 61 RX3, Cond.methodLink RX6 37 yX5_readSheet, Cond.instanceMethod yX5_readSheet, Cond.selects RX5 yX5_readSheet yX5_readSheet, Cond.code yX5_readSheet cX5_readSheet 2 (some .boolean), Cond.methodLink RX5 48 yX5_begin]
def wsL_law0_r7 : List Cond := [Cond.instanceMethod yX5_begin, Cond.selects RX5 yX5_begin yX5_begin, Cond.code yX5_begin cX5_begin 1 none, Cond.fieldLink RX5 65 "SlantOaths$Text" "place" "I", Cond.fieldLink RX5 68 "SlantOaths$Text" "isBroken" "Z", Cond.fieldLink RX5 72 "SlantOaths$Text" "strokes" "I", Cond.fieldLink RX5 75 "SlantOaths$Text" "parts" "I", Cond.methodLink RX5 51 yX5_readStroke, Cond.instanceMethod yX5_readStroke, Cond.selects RX5 yX5_readStroke yX5_readStroke, Cond.code yX5_readStroke cX5_readStroke 8 none, Cond.methodLink RX5 54 yX5_skip, Cond.instanceMethod yX5_skip, Cond.selects RX5 yX5_skip yX5_skip, Cond.code yX5_skip cX5_skip 2 (some .boolean), Cond.methodLink RX5 85 yX5_codeHere, Cond.instanceMethod yX5_codeHere, Cond.selects RX5 yX5_codeHere yX5_codeHere, Cond.code yX5_codeHere cX5_codeHere 1 (some .int), Cond.fieldLink RX5 32 "SlantOaths$Text" "length" "I", Cond.methodLink RX5 44 yX2_at, Cond.methodLink RX5 78 yX5_readNumber, Cond.instanceMethod yX5_readNumber, Cond.selects RX5 yX5_readNumber yX5_readNumber]
def wsL_law0_r8 : List Cond := [Cond.code yX5_readNumber cX5_readNumber 5 (some .int), Cond.methodLink RX5 89 yX5_digitHere, Cond.instanceMethod yX5_digitHere, Cond.selects RX5 yX5_digitHere yX5_digitHere, Cond.code yX5_digitHere cX5_digitHere 2 (some .int), Cond.methodLink RX5 82 yX5_need, Cond.instanceMethod yX5_need, Cond.selects RX5 yX5_need yX5_need, Cond.code yX5_need cX5_need 2 none, Cond.methodLink RX5 36 yX2_put, Cond.methodLink RX5 58 yX5_isComplete, Cond.instanceMethod yX5_isComplete, Cond.selects RX5 yX5_isComplete yX5_isComplete, Cond.code yX5_isComplete cX5_isComplete 1 (some .boolean), Cond.methodLink RX6 57 yX0_save, Cond.instanceMethod yX0_save, Cond.selects RX0 yX0_save yX0_save, Cond.code yX0_save cX0_save 3 none, Cond.fieldLink RX0 18 "SlantOaths$History" "newest" "I", Cond.fieldLink RX0 30 "SlantOaths$History" "size" "I", Cond.methodLink RX0 22 yX0_newestSlot, Cond.instanceMethod yX0_newestSlot, Cond.selects RX0 yX0_newestSlot yX0_newestSlot, Cond.code yX0_newestSlot cX0_newestSlot 1 (some (.object "SlantOaths$Table"))]
def wsL_law0_r9 : List Cond := [Cond.methodLink RX0 26 yX4_takeOver, Cond.instanceMethod yX4_takeOver, Cond.selects RX4 yX4_takeOver yX4_takeOver, Cond.code yX4_takeOver cX4_takeOver 3 none, Cond.fieldLink RX4 65 "SlantOaths$Table" "size" "I", Cond.methodLink RX4 61 yX2_copyFrom, Cond.methodLink RX4 68 yX1_takeOver, Cond.instanceMethod yX1_takeOver, Cond.selects RX1 yX1_takeOver yX1_takeOver, Cond.code yX1_takeOver cX1_takeOver 2 none, Cond.fieldLink RX1 33 "SlantOaths$Oaths" "sworn" "I", Cond.methodLink RX1 36 yX2_copyFrom, Cond.methodLink RX6 70 yX3_init, Cond.methodLink RX6 73 yX3_reckonMarks, Cond.instanceMethod yX3_reckonMarks, Cond.selects RX3 yX3_reckonMarks yX3_reckonMarks, Cond.code yX3_reckonMarks cX3_reckonMarks 3 none, Cond.methodLink RX3 31 yX3_total, Cond.instanceMethod yX3_total, Cond.selects RX3 yX3_total yX3_total, Cond.code yX3_total cX3_total 4 (some .int), Cond.methodLink RX3 53 yX3_numberOf, Cond.instanceMethod yX3_numberOf, Cond.selects RX3 yX3_numberOf yX3_numberOf]
def wsL_law0_r10 : List Cond := [Cond.code yX3_numberOf cX3_numberOf 3 (some .int), Cond.methodLink RX3 56 yX2_at, Cond.methodLink RX3 35 yX3_mean, Cond.static yX3_mean, Cond.code yX3_mean cX3_mean 2 (some .int), Cond.methodLink RX3 80 yJ9_floorDiv_7cf53, Cond.static yJ9_floorDiv_7cf53, Cond.initialized RJ9, Cond.code yJ9_floorDiv_7cf53 cJ9_floorDiv_7cf53 3 (some .int), Cond.methodLink RX3 39 yX2_put, Cond.methodLink RX3 43 yX3_slantRange, Cond.instanceMethod yX3_slantRange, Cond.selects RX3 yX3_slantRange yX3_slantRange, Cond.code yX3_slantRange cX3_slantRange 4 (some .int), Cond.methodLink RX3 69 Lib.Math.min.name, Cond.methodLink RX3 74 Lib.Math.max.name, Cond.static Lib.Math.max.name, Cond.code Lib.Math.max.name Lib.Math.max.code 2 (some .int), Cond.methodLink RX3 47 yX3_loopHeights, Cond.instanceMethod yX3_loopHeights, Cond.selects RX3 yX3_loopHeights yX3_loopHeights, Cond.code yX3_loopHeights cX3_loopHeights 3 (some .int), Cond.methodLink RX3 50 yX3_pressureSteps, Cond.instanceMethod yX3_pressureSteps]
def wsL_law0_r11 : List Cond := [Cond.selects RX3 yX3_pressureSteps yX3_pressureSteps, Cond.code yX3_pressureSteps cX3_pressureSteps 3 (some .int), Cond.methodLink RX3 77 Lib.Math.abs.name, Cond.static Lib.Math.abs.name, Cond.code Lib.Math.abs.name Lib.Math.abs.code 1 (some .int), Cond.methodLink RX6 76 yX4_putDown, Cond.instanceMethod yX4_putDown, Cond.selects RX4 yX4_putDown yX4_putDown, Cond.code yX4_putDown cX4_putDown 3 (some .int), Cond.methodLink RX6 80 yX5_empty, Cond.instanceMethod yX5_empty, Cond.selects RX5 yX5_empty yX5_empty, Cond.code yX5_empty cX5_empty 1 none, Cond.methodLink RL 92 yX7_lay, Cond.instanceMethod yX7_lay, Cond.selects RX7 yX7_lay yX7_lay, Cond.code yX7_lay cX7_lay 4 (some .int), Cond.fieldLink RX7 31 "SlantOathsModel" "thrown" "I", Cond.fieldLink RX7 136 "SlantOathsModel" "many" "I", Cond.fieldLink RX7 139 "SlantOathsModel" "length" "I", Cond.methodLink RX7 132 yX7_isSheetText, Cond.instanceMethod yX7_isSheetText, Cond.selects RX7 yX7_isSheetText yX7_isSheetText, Cond.code yX7_isSheetText cX7_isSheetText 1 (some .boolean)]
def wsL_law0_r12 : List Cond := [Cond.methodLink RX7 176 yX7_findSheetError, Cond.instanceMethod yX7_findSheetError, Cond.selects RX7 yX7_findSheetError yX7_findSheetError, Cond.code yX7_findSheetError cX7_findSheetError 1 (some .int), Cond.fieldLink RX7 161 "SlantOathsModel" "at" "I", Cond.methodLink RX7 173 yX7_readsStroke, Cond.instanceMethod yX7_readsStroke, Cond.selects RX7 yX7_readsStroke yX7_readsStroke, Cond.code yX7_readsStroke cX7_readsStroke 9 (some .boolean), Cond.methodLink RX7 167 yX7_takes, Cond.instanceMethod yX7_takes, Cond.selects RX7 yX7_takes yX7_takes, Cond.code yX7_takes cX7_takes 3 (some .boolean), Cond.methodLink RX7 164 yX7_next, Cond.instanceMethod yX7_next, Cond.selects RX7 yX7_next yX7_next, Cond.code yX7_next cX7_next 1 (some .int), Cond.methodLink RX7 170 yX7_readNumber, Cond.instanceMethod yX7_readNumber, Cond.selects RX7 yX7_readNumber yX7_readNumber, Cond.code yX7_readNumber cX7_readNumber 4 (some .int), Cond.methodLink RX7 35 yX7_within, Cond.static yX7_within, Cond.code yX7_within cX7_within 3 (some .boolean)]
def wsL_law0_r13 : List Cond := [Cond.methodLink RX7 46 yX7_fails, Cond.instanceMethod yX7_fails, Cond.selects RX7 yX7_fails yX7_fails, Cond.code yX7_fails cX7_fails 2 (some .int), Cond.methodLink RX7 54 yX7_save, Cond.instanceMethod yX7_save, Cond.selects RX7 yX7_save yX7_save, Cond.code yX7_save cX7_save 2 none, Cond.fieldLink RX7 43 "SlantOathsModel" "savedMany" "I", Cond.methodLink RL 93 yX7_thrown, Cond.instanceMethod yX7_thrown, Cond.selects RX7 yX7_thrown yX7_thrown, Cond.code yX7_thrown cX7_thrown 1 (some .int), Cond.methodLink RL 96 yL_drop, Cond.static yL_drop, Cond.codeWith yL_drop cL_drop 4 (some .int) [(0, 9, 12, 20)], Cond.classLink RL 20 "java/lang/IndexOutOfBoundsException", Cond.methodLink RL 17 yX6_drop, Cond.instanceMethod yX6_drop, Cond.selects RX6 yX6_drop yX6_drop, Cond.code yX6_drop cX6_drop 2 (some .int), Cond.classLink RX6 87 "java/lang/IndexOutOfBoundsException", Cond.initialized "java/lang/IndexOutOfBoundsException", Cond.methodLink RX6 83 yX6_isThere]
def wsL_law0_r14 : List Cond := [Cond.instanceMethod yX6_isThere, Cond.selects RX6 yX6_isThere yX6_isThere, Cond.code yX6_isThere cX6_isThere 2 (some .boolean), Cond.methodLink RX6 92 yX4_takeAway, Cond.instanceMethod yX4_takeAway, Cond.selects RX4 yX4_takeAway yX4_takeAway, Cond.code yX4_takeAway cX4_takeAway 3 (some .int), Cond.methodLink RX4 72 yX2_closeUp, Cond.instanceMethod yX2_closeUp, Cond.selects RX2 yX2_closeUp yX2_closeUp, Cond.code yX2_closeUp cX2_closeUp 3 none, Cond.methodLink RX4 75 yX1_forgetSheet, Cond.instanceMethod yX1_forgetSheet, Cond.selects RX1 yX1_forgetSheet yX1_forgetSheet, Cond.code yX1_forgetSheet cX1_forgetSheet 4 (some .int), Cond.methodLink RX1 50 yX1_isOf, Cond.instanceMethod yX1_isOf, Cond.selects RX1 yX1_isOf yX1_isOf, Cond.code yX1_isOf cX1_isOf 3 (some .boolean), Cond.methodLink RX1 47 yX1_takeOut, Cond.instanceMethod yX1_takeOut, Cond.selects RX1 yX1_takeOut yX1_takeOut, Cond.code yX1_takeOut cX1_takeOut 2 none, Cond.methodLink RX1 76 yX2_closeUp]
def wsL_law0_r15 : List Cond := [Cond.methodLink RX1 58 yX1_numberWithout, Cond.static yX1_numberWithout, Cond.code yX1_numberWithout cX1_numberWithout 2 (some .int), Cond.methodLink RX1 44 yX1_joinHands, Cond.methodLink RL 98 yX7_drop, Cond.instanceMethod yX7_drop, Cond.selects RX7 yX7_drop yX7_drop, Cond.code yX7_drop cX7_drop 2 (some .int), Cond.methodLink RX7 142 yX7_isSheet, Cond.instanceMethod yX7_isSheet, Cond.selects RX7 yX7_isSheet yX7_isSheet, Cond.code yX7_isSheet cX7_isSheet 2 (some .boolean), Cond.methodLink RX7 145 yX7_drops, Cond.instanceMethod yX7_drops, Cond.selects RX7 yX7_drops yX7_drops, Cond.code yX7_drops cX7_drops 4 (some .int), Cond.methodLink RX7 98 yX7_ofOath, Cond.instanceMethod yX7_ofOath, Cond.selects RX7 yX7_ofOath yX7_ofOath, Cond.code yX7_ofOath cX7_ofOath 3 (some .int), Cond.methodLink RX7 129 yX7_dropOath, Cond.instanceMethod yX7_dropOath, Cond.selects RX7 yX7_dropOath yX7_dropOath, Cond.code yX7_dropOath cX7_dropOath 3 none]
def wsL_law0_r16 : List Cond := [Cond.methodLink RL 99 yL_pass, Cond.static yL_pass, Cond.codeWith yL_pass cL_pass 4 (some .int) [(0, 9, 12, 13)], Cond.methodLink RL 22 yX6_pass, Cond.instanceMethod yX6_pass, Cond.selects RX6 yX6_pass yX6_pass, Cond.code yX6_pass cX6_pass 2 (some .int), Cond.methodLink RX6 98 yX4_growOlder, Cond.instanceMethod yX4_growOlder, Cond.selects RX4 yX4_growOlder yX4_growOlder, Cond.code yX4_growOlder cX4_growOlder 4 (some .int), Cond.methodLink RX4 82 Lib.Math.min.name, Cond.methodLink RX4 88 Lib.Math.max.name, Cond.methodLink RX4 79 yX2_at, Cond.methodLink RL 101 yX7_pass, Cond.instanceMethod yX7_pass, Cond.selects RX7 yX7_pass yX7_pass, Cond.code yX7_pass cX7_pass 2 (some .int), Cond.methodLink RX7 148 yX7_passes, Cond.instanceMethod yX7_passes, Cond.selects RX7 yX7_passes yX7_passes, Cond.code yX7_passes cX7_passes 5 (some .int), Cond.methodLink RX7 39 yX7_of, Cond.instanceMethod yX7_of]
def wsL_law0_r17 : List Cond := [Cond.selects RX7 yX7_of yX7_of, Cond.code yX7_of cX7_of 3 (some .int), Cond.methodLink RL 102 yL_set, Cond.static yL_set, Cond.codeWith yL_set cL_set 5 (some .int) [(0, 10, 13, 20), (0, 10, 17, 13)], Cond.methodLink RL 25 yX6_set, Cond.instanceMethod yX6_set, Cond.selects RX6 yX6_set yX6_set, Cond.code yX6_set cX6_set 4 (some .int), Cond.fieldLink RX6 101 "SlantOaths" "MOST_OF_SETTING" "[I", Cond.methodLink RX6 112 yX2_at, Cond.methodLink RX6 117 yX2_put, Cond.methodLink RL 105 yX7_set, Cond.instanceMethod yX7_set, Cond.selects RX7 yX7_set yX7_set, Cond.code yX7_set cX7_set 4 (some .int), Cond.methodLink RX7 151 yX7_mostOf, Cond.static yX7_mostOf, Cond.code yX7_mostOf cX7_mostOf 1 (some .int), Cond.methodLink RL 106 yL_swear, Cond.static yL_swear, Cond.codeWith yL_swear cL_swear 6 (some .int) [(0, 12, 15, 20), (0, 12, 19, 15)], Cond.methodLink RL 29 yX6_swear, Cond.instanceMethod yX6_swear]
def wsL_law0_r18 : List Cond := [Cond.selects RX6 yX6_swear yX6_swear, Cond.code yX6_swear cX6_swear 4 (some .int), Cond.methodLink RX6 121 yX6_areThere, Cond.instanceMethod yX6_areThere, Cond.selects RX6 yX6_areThere yX6_areThere, Cond.code yX6_areThere cX6_areThere 3 (some .boolean), Cond.methodLink RX6 125 yX4_reasonAgainst, Cond.instanceMethod yX4_reasonAgainst, Cond.selects RX4 yX4_reasonAgainst yX4_reasonAgainst, Cond.code yX4_reasonAgainst cX4_reasonAgainst 4 (some .int), Cond.methodLink RX4 152 yX1_placeOf, Cond.instanceMethod yX1_placeOf, Cond.selects RX1 yX1_placeOf yX1_placeOf, Cond.code yX1_placeOf cX1_placeOf 4 (some .int), Cond.methodLink RX4 145 yX4_areOfOneHand, Cond.instanceMethod yX4_areOfOneHand, Cond.selects RX4 yX4_areOfOneHand yX4_areOfOneHand, Cond.code yX4_areOfOneHand cX4_areOfOneHand 3 (some .boolean), Cond.methodLink RX4 105 yX1_handOf, Cond.instanceMethod yX1_handOf, Cond.selects RX1 yX1_handOf yX1_handOf, Cond.code yX1_handOf cX1_handOf 2 (some .int), Cond.methodLink RX4 101 yX4_trembles, Cond.instanceMethod yX4_trembles]
def wsL_law0_r19 : List Cond := [Cond.selects RX4 yX4_trembles yX4_trembles, Cond.code yX4_trembles cX4_trembles 3 (some .boolean), Cond.methodLink RX4 91 yX4_sheetAt, Cond.instanceMethod yX4_sheetAt, Cond.selects RX4 yX4_sheetAt yX4_sheetAt, Cond.code yX4_sheetAt cX4_sheetAt 3 (some (.object "SlantOaths$Sheet")), Cond.methodLink RX4 98 yX3_total, Cond.methodLink RX4 134 yX4_likeness, Cond.instanceMethod yX4_likeness, Cond.selects RX4 yX4_likeness yX4_likeness, Cond.code yX4_likeness cX4_likeness 4 (some .int), Cond.methodLink RX4 138 yX4_agreeing, Cond.instanceMethod yX4_agreeing, Cond.selects RX4 yX4_agreeing yX4_agreeing, Cond.code yX4_agreeing cX4_agreeing 11 (some .int), Cond.methodLink RX4 166 Lib.Math.abs.name, Cond.methodLink RX4 169 yX4_allowance, Cond.static yX4_allowance, Cond.code yX4_allowance cX4_allowance 2 (some .int), Cond.methodLink RX4 111 yX4_fadedMarks, Cond.instanceMethod yX4_fadedMarks, Cond.selects RX4 yX4_fadedMarks yX4_fadedMarks, Cond.code yX4_fadedMarks cX4_fadedMarks 2 (some .int), Cond.methodLink RX4 158 yJ6_bitCount_0f7a4]
def wsL_law0_r20 : List Cond := [Cond.static yJ6_bitCount_0f7a4, Cond.initialized RJ6, Cond.code yJ6_bitCount_0f7a4 cJ6_bitCount_0f7a4 1 (some .int), Cond.constant RJ6 265 (1431655765), Cond.constant RJ6 266 (858993459), Cond.constant RJ6 267 (252645135), Cond.methodLink RX4 155 yX1_forbidJoining, Cond.instanceMethod yX1_forbidJoining, Cond.selects RX1 yX1_forbidJoining yX1_forbidJoining, Cond.code yX1_forbidJoining cX1_forbidJoining 4 (some .boolean), Cond.methodLink RX1 69 yX1_isInHands, Cond.instanceMethod yX1_isInHands, Cond.selects RX1 yX1_isInHands yX1_isInHands, Cond.code yX1_isInHands cX1_isInHands 5 (some .boolean), Cond.methodLink RX6 135 yX1_add, Cond.instanceMethod yX1_add, Cond.selects RX1 yX1_add yX1_add, Cond.code yX1_add cX1_add 4 none, Cond.methodLink RX6 141 yX4_hands, Cond.instanceMethod yX4_hands, Cond.selects RX4 yX4_hands yX4_hands, Cond.code yX4_hands cX4_hands 3 (some .int), Cond.methodLink RL 109 yX7_swear, Cond.instanceMethod yX7_swear]
def wsL_law0_r21 : List Cond := [Cond.selects RX7 yX7_swear yX7_swear, Cond.code yX7_swear cX7_swear 4 (some .int), Cond.methodLink RX7 154 yX7_whyNotSworn, Cond.instanceMethod yX7_whyNotSworn, Cond.selects RX7 yX7_whyNotSworn yX7_whyNotSworn, Cond.code yX7_whyNotSworn cX7_whyNotSworn 4 (some .int), Cond.methodLink RX7 109 yX7_findOath, Cond.instanceMethod yX7_findOath, Cond.selects RX7 yX7_findOath yX7_findOath, Cond.code yX7_findOath cX7_findOath 6 (some .int), Cond.methodLink RX7 112 yX7_areOfOne, Cond.instanceMethod yX7_areOfOne, Cond.selects RX7 yX7_areOfOne yX7_areOfOne, Cond.code yX7_areOfOne cX7_areOfOne 3 (some .boolean), Cond.methodLink RX7 105 yX7_layHands, Cond.instanceMethod yX7_layHands, Cond.selects RX7 yX7_layHands yX7_layHands, Cond.code yX7_layHands cX7_layHands 3 none, Cond.methodLink RX7 101 yX7_join, Cond.instanceMethod yX7_join, Cond.selects RX7 yX7_join yX7_join, Cond.code yX7_join cX7_join 7 none, Cond.methodLink RX7 116 yX7_trembles, Cond.instanceMethod yX7_trembles]
def wsL_law0_r22 : List Cond := [Cond.selects RX7 yX7_trembles yX7_trembles, Cond.code yX7_trembles cX7_trembles 2 (some .boolean), Cond.methodLink RX7 61 yX7_sumOf, Cond.instanceMethod yX7_sumOf, Cond.selects RX7 yX7_sumOf yX7_sumOf, Cond.code yX7_sumOf cX7_sumOf 5 (some .int), Cond.methodLink RX7 57 yX7_ofStroke, Cond.instanceMethod yX7_ofStroke, Cond.selects RX7 yX7_ofStroke yX7_ofStroke, Cond.code yX7_ofStroke cX7_ofStroke 4 (some .int), Cond.methodLink RX7 119 yX7_likeness, Cond.instanceMethod yX7_likeness, Cond.selects RX7 yX7_likeness yX7_likeness, Cond.code yX7_likeness cX7_likeness 3 (some .int), Cond.methodLink RX7 92 yX7_agreeing, Cond.instanceMethod yX7_agreeing, Cond.selects RX7 yX7_agreeing yX7_agreeing, Cond.code yX7_agreeing cX7_agreeing 5 (some .int), Cond.methodLink RX7 86 yX7_isGone, Cond.instanceMethod yX7_isGone, Cond.selects RX7 yX7_isGone yX7_isGone, Cond.code yX7_isGone cX7_isGone 4 (some .boolean), Cond.methodLink RX7 79 yX7_hasFaded, Cond.instanceMethod yX7_hasFaded]
def wsL_law0_r23 : List Cond := [Cond.selects RX7 yX7_hasFaded yX7_hasFaded, Cond.code yX7_hasFaded cX7_hasFaded 2 (some .boolean), Cond.methodLink RX7 89 yX7_differ, Cond.instanceMethod yX7_differ, Cond.selects RX7 yX7_differ yX7_differ, Cond.code yX7_differ cX7_differ 4 (some .int), Cond.methodLink RX7 83 yX7_markOf, Cond.instanceMethod yX7_markOf, Cond.selects RX7 yX7_markOf yX7_markOf, Cond.code yX7_markOf cX7_markOf 3 (some .int), Cond.methodLink RX7 67 yX7_divided, Cond.static yX7_divided, Cond.code yX7_divided cX7_divided 2 (some .int), Cond.methodLink RX7 70 yX7_spread, Cond.instanceMethod yX7_spread, Cond.selects RX7 yX7_spread yX7_spread, Cond.code yX7_spread cX7_spread 6 (some .int), Cond.methodLink RX7 73 yX7_loopHeight, Cond.instanceMethod yX7_loopHeight, Cond.selects RX7 yX7_loopHeight yX7_loopHeight, Cond.code yX7_loopHeight cX7_loopHeight 5 (some .int), Cond.methodLink RX7 76 yX7_unrest, Cond.instanceMethod yX7_unrest, Cond.selects RX7 yX7_unrest yX7_unrest]
def wsL_law0_r24 : List Cond := [Cond.code yX7_unrest cX7_unrest 5 (some .int), Cond.methodLink RX7 64 yX7_sizeOf, Cond.static yX7_sizeOf, Cond.code yX7_sizeOf cX7_sizeOf 1 (some .int), Cond.methodLink RX7 95 yX7_ones, Cond.static yX7_ones, Cond.code yX7_ones cX7_ones 3 (some .int), Cond.methodLink RX7 122 yX7_breaks, Cond.instanceMethod yX7_breaks, Cond.selects RX7 yX7_breaks yX7_breaks, Cond.code yX7_breaks cX7_breaks 5 (some .boolean), Cond.methodLink RX7 158 yX7_swears, Cond.instanceMethod yX7_swears, Cond.selects RX7 yX7_swears yX7_swears, Cond.code yX7_swears cX7_swears 5 (some .int), Cond.methodLink RX7 125 yX7_hands, Cond.instanceMethod yX7_hands, Cond.selects RX7 yX7_hands yX7_hands, Cond.code yX7_hands cX7_hands 3 (some .int), Cond.methodLink RL 110 yL_recant, Cond.static yL_recant, Cond.codeWith yL_recant cL_recant 5 (some .int) [(0, 10, 13, 20)], Cond.methodLink RL 33 yX6_recant, Cond.instanceMethod yX6_recant]
def wsL_law0_r25 : List Cond := [Cond.selects RX6 yX6_recant yX6_recant, Cond.code yX6_recant cX6_recant 4 (some .int), Cond.methodLink RX6 145 yX1_placeOf, Cond.methodLink RX6 149 yX1_removeAt, Cond.instanceMethod yX1_removeAt, Cond.selects RX1 yX1_removeAt yX1_removeAt, Cond.code yX1_removeAt cX1_removeAt 2 none, Cond.methodLink RL 112 yX7_recant, Cond.instanceMethod yX7_recant, Cond.selects RX7 yX7_recant yX7_recant, Cond.code yX7_recant cX7_recant 4 (some .int), Cond.methodLink RL 113 yL_append, Cond.static yL_append, Cond.codeWith yL_append cL_append 4 (some .int) [(0, 9, 12, 13), (0, 9, 15, 15)], Cond.methodLink RL 36 yX6_append, Cond.instanceMethod yX6_append, Cond.selects RX6 yX6_append yX6_append, Cond.code yX6_append cX6_append 2 (some .int), Cond.methodLink RX6 160 yX5_add, Cond.instanceMethod yX5_add, Cond.selects RX5 yX5_add yX5_add, Cond.code yX5_add cX5_add 2 (some .int), Cond.methodLink RL 115 yX7_append, Cond.instanceMethod yX7_append]
def wsL_law0_r26 : List Cond := [Cond.selects RX7 yX7_append yX7_append, Cond.code yX7_append cX7_append 2 (some .int), Cond.methodLink RL 116 yX6_clearBuffer, Cond.instanceMethod yX6_clearBuffer, Cond.selects RX6 yX6_clearBuffer yX6_clearBuffer, Cond.code yX6_clearBuffer cX6_clearBuffer 2 (some .int), Cond.methodLink RL 119 yX7_clearBuffer, Cond.instanceMethod yX7_clearBuffer, Cond.selects RX7 yX7_clearBuffer yX7_clearBuffer, Cond.code yX7_clearBuffer cX7_clearBuffer 2 (some .int), Cond.methodLink RL 120 yX6_firstError, Cond.instanceMethod yX6_firstError, Cond.selects RX6 yX6_firstError yX6_firstError, Cond.code yX6_firstError cX6_firstError 2 (some .int), Cond.methodLink RX6 162 yX5_readWorks, Cond.instanceMethod yX5_readWorks, Cond.selects RX5 yX5_readWorks yX5_readWorks, Cond.code yX5_readWorks cX5_readWorks 2 (some .boolean), Cond.methodLink RX5 62 yX5_readPart, Cond.instanceMethod yX5_readPart, Cond.selects RX5 yX5_readPart yX5_readPart, Cond.code yX5_readPart cX5_readPart 4 none, Cond.methodLink RL 124 yX7_firstError, Cond.instanceMethod yX7_firstError]
def wsL_law0_r27 : List Cond := [Cond.selects RX7 yX7_firstError yX7_firstError, Cond.code yX7_firstError cX7_firstError 3 (some .int), Cond.methodLink RX7 191 yX7_findWorksError, Cond.instanceMethod yX7_findWorksError, Cond.selects RX7 yX7_findWorksError yX7_findWorksError, Cond.code yX7_findWorksError cX7_findWorksError 1 (some .int), Cond.methodLink RX7 188 yX7_readsPart, Cond.instanceMethod yX7_readsPart, Cond.selects RX7 yX7_readsPart yX7_readsPart, Cond.code yX7_readsPart cX7_readsPart 1 (some .boolean), Cond.fieldLink RX7 179 "SlantOathsModel" "sign" "I", Cond.fieldLink RX7 182 "SlantOathsModel" "first" "I", Cond.fieldLink RX7 185 "SlantOathsModel" "second" "I", Cond.methodLink RL 125 yL_work, Cond.static yL_work, Cond.codeWith yL_work cL_work 3 (some .int) [(0, 8, 11, 13)], Cond.methodLink RL 39 yX6_work, Cond.instanceMethod yX6_work, Cond.selects RX6 yX6_work yX6_work, Cond.code yX6_work cX6_work 2 (some .int), Cond.methodLink RX6 170 yX4_forgetStop, Cond.instanceMethod yX4_forgetStop, Cond.selects RX4 yX4_forgetStop yX4_forgetStop, Cond.code yX4_forgetStop cX4_forgetStop 1 none]
def wsL_law0_r28 : List Cond := [Cond.methodLink RX6 176 yX6_doPart, Cond.instanceMethod yX6_doPart, Cond.selects RX6 yX6_doPart yX6_doPart, Cond.code yX6_doPart cX6_doPart 5 (some .boolean), Cond.methodLink RX6 278 yX6_swearPart, Cond.instanceMethod yX6_swearPart, Cond.selects RX6 yX6_swearPart yX6_swearPart, Cond.code yX6_swearPart cX6_swearPart 5 (some .int), Cond.methodLink RL 128 yX7_work, Cond.instanceMethod yX7_work, Cond.selects RX7 yX7_work yX7_work, Cond.code yX7_work cX7_work 3 (some .int), Cond.methodLink RX7 194 yX7_whyNotPart, Cond.instanceMethod yX7_whyNotPart, Cond.selects RX7 yX7_whyNotPart yX7_whyNotPart, Cond.code yX7_whyNotPart cX7_whyNotPart 1 (some .int), Cond.methodLink RX7 197 yX7_doPart, Cond.instanceMethod yX7_doPart, Cond.selects RX7 yX7_doPart yX7_doPart, Cond.code yX7_doPart cX7_doPart 1 none, Cond.methodLink RL 129 yL_stopped, Cond.static yL_stopped, Cond.codeWith yL_stopped cL_stopped 4 (some .int) [(0, 9, 12, 13)], Cond.methodLink RL 43 yX6_stopped]
def wsL_law0_r29 : List Cond := [Cond.instanceMethod yX6_stopped, Cond.selects RX6 yX6_stopped yX6_stopped, Cond.code yX6_stopped cX6_stopped 2 (some .int), Cond.methodLink RL 131 yX7_stopped, Cond.instanceMethod yX7_stopped, Cond.selects RX7 yX7_stopped yX7_stopped, Cond.code yX7_stopped cX7_stopped 2 (some .int), Cond.methodLink RL 132 yL_undo, Cond.static yL_undo, Cond.codeWith yL_undo cL_undo 3 (some .int) [(0, 8, 11, 15)], Cond.methodLink RL 46 yX6_undo, Cond.instanceMethod yX6_undo, Cond.selects RX6 yX6_undo yX6_undo, Cond.code yX6_undo cX6_undo 1 (some .int), Cond.methodLink RX6 190 yX0_bringBack, Cond.instanceMethod yX0_bringBack, Cond.selects RX0 yX0_bringBack yX0_bringBack, Cond.code yX0_bringBack cX0_bringBack 3 none, Cond.methodLink RL 134 yX7_undo, Cond.instanceMethod yX7_undo, Cond.selects RX7 yX7_undo yX7_undo, Cond.code yX7_undo cX7_undo 2 (some .int), Cond.methodLink RL 135 yX6_keep, Cond.instanceMethod yX6_keep]
def wsL_law0_r30 : List Cond := [Cond.selects RX6 yX6_keep yX6_keep, Cond.code yX6_keep cX6_keep 1 (some .int), Cond.methodLink RX6 193 yX4_takeOver, Cond.methodLink RL 138 yX7_keep, Cond.instanceMethod yX7_keep, Cond.selects RX7 yX7_keep yX7_keep, Cond.code yX7_keep cX7_keep 2 (some .int), Cond.fieldLink RX7 50 "SlantOathsModel" "hasSnapshot" "Z", Cond.methodLink RL 139 yL_restore, Cond.static yL_restore, Cond.codeWith yL_restore cL_restore 3 (some .int) [(0, 8, 11, 15)], Cond.methodLink RL 49 yX6_restore, Cond.instanceMethod yX6_restore, Cond.selects RX6 yX6_restore yX6_restore, Cond.code yX6_restore cX6_restore 1 (some .int), Cond.methodLink RL 141 yX7_restore, Cond.instanceMethod yX7_restore, Cond.selects RX7 yX7_restore yX7_restore, Cond.code yX7_restore cX7_restore 2 (some .int), Cond.methodLink RL 142 yL_sheet, Cond.static yL_sheet, Cond.codeWith yL_sheet cL_sheet 5 (some .int) [(0, 10, 13, 20), (0, 10, 17, 13)], Cond.methodLink RL 52 yX6_sheet, Cond.instanceMethod yX6_sheet]
def wsL_law0_r31 : List Cond := [Cond.selects RX6 yX6_sheet yX6_sheet, Cond.code yX6_sheet cX6_sheet 3 (some .int), Cond.methodLink RX6 200 yX4_numberOfSheet, Cond.instanceMethod yX4_numberOfSheet, Cond.selects RX4 yX4_numberOfSheet yX4_numberOfSheet, Cond.code yX4_numberOfSheet cX4_numberOfSheet 3 (some .int), Cond.methodLink RX4 108 yX1_ofSheet, Cond.instanceMethod yX1_ofSheet, Cond.selects RX1 yX1_ofSheet yX1_ofSheet, Cond.code yX1_ofSheet cX1_ofSheet 4 (some .int), Cond.methodLink RL 144 yX7_sheet, Cond.instanceMethod yX7_sheet, Cond.selects RX7 yX7_sheet yX7_sheet, Cond.code yX7_sheet cX7_sheet 3 (some .int), Cond.methodLink RX7 206 yX7_tellsSheet, Cond.instanceMethod yX7_tellsSheet, Cond.selects RX7 yX7_tellsSheet yX7_tellsSheet, Cond.code yX7_tellsSheet cX7_tellsSheet 3 (some .int), Cond.methodLink RX7 200 yX7_handOf, Cond.instanceMethod yX7_handOf, Cond.selects RX7 yX7_handOf yX7_handOf, Cond.code yX7_handOf cX7_handOf 2 (some .int), Cond.methodLink RX7 203 yX7_oathsOf, Cond.instanceMethod yX7_oathsOf]
def wsL_law0_r32 : List Cond := [Cond.selects RX7 yX7_oathsOf yX7_oathsOf, Cond.code yX7_oathsOf cX7_oathsOf 4 (some .int), Cond.methodLink RL 145 yL_stroke, Cond.static yL_stroke, Cond.codeWith yL_stroke cL_stroke 6 (some .int) [(0, 12, 15, 20), (0, 12, 19, 13)], Cond.methodLink RL 55 yX6_stroke, Cond.instanceMethod yX6_stroke, Cond.selects RX6 yX6_stroke yX6_stroke, Cond.code yX6_stroke cX6_stroke 4 (some .int), Cond.methodLink RX6 205 yX4_sheetAt, Cond.methodLink RX6 209 yX3_toldNumber, Cond.instanceMethod yX3_toldNumber, Cond.selects RX3 yX3_toldNumber yX3_toldNumber, Cond.code yX3_toldNumber cX3_toldNumber 3 (some .int), Cond.methodLink RL 148 yX7_stroke, Cond.instanceMethod yX7_stroke, Cond.selects RX7 yX7_stroke yX7_stroke, Cond.code yX7_stroke cX7_stroke 4 (some .int), Cond.methodLink RX7 209 yX7_tellsStroke, Cond.instanceMethod yX7_tellsStroke, Cond.selects RX7 yX7_tellsStroke yX7_tellsStroke, Cond.code yX7_tellsStroke cX7_tellsStroke 4 (some .int), Cond.methodLink RL 149 yL_mark, Cond.static yL_mark]
def wsL_law0_r33 : List Cond := [Cond.codeWith yL_mark cL_mark 5 (some .int) [(0, 10, 13, 20), (0, 10, 17, 13)], Cond.methodLink RL 59 yX6_mark, Cond.instanceMethod yX6_mark, Cond.selects RX6 yX6_mark yX6_mark, Cond.code yX6_mark cX6_mark 3 (some .int), Cond.methodLink RX6 214 yX3_toldMark, Cond.instanceMethod yX3_toldMark, Cond.selects RX3 yX3_toldMark yX3_toldMark, Cond.code yX3_toldMark cX3_toldMark 2 (some .int), Cond.methodLink RL 151 yX7_mark, Cond.instanceMethod yX7_mark, Cond.selects RX7 yX7_mark yX7_mark, Cond.code yX7_mark cX7_mark 3 (some .int), Cond.methodLink RL 152 yL_compare, Cond.static yL_compare, Cond.codeWith yL_compare cL_compare 6 (some .int) [(0, 12, 15, 20), (0, 12, 19, 13)], Cond.methodLink RL 62 yX6_compare, Cond.instanceMethod yX6_compare, Cond.selects RX6 yX6_compare yX6_compare, Cond.code yX6_compare cX6_compare 4 (some .int), Cond.methodLink RX6 219 yX4_comparison, Cond.instanceMethod yX4_comparison, Cond.selects RX4 yX4_comparison yX4_comparison, Cond.code yX4_comparison cX4_comparison 4 (some .int)]
def wsL_law0_r34 : List Cond := [Cond.methodLink RX4 141 yX1_leads, Cond.instanceMethod yX1_leads, Cond.selects RX1 yX1_leads yX1_leads, Cond.code yX1_leads cX1_leads 9 (some .boolean), Cond.methodLink RX4 149 yX1_kindOf, Cond.instanceMethod yX1_kindOf, Cond.selects RX1 yX1_kindOf yX1_kindOf, Cond.code yX1_kindOf cX1_kindOf 4 (some .int), Cond.methodLink RX1 62 yX1_placeOf, Cond.methodLink RL 154 yX7_compare, Cond.instanceMethod yX7_compare, Cond.selects RX7 yX7_compare yX7_compare, Cond.code yX7_compare cX7_compare 4 (some .int), Cond.methodLink RX7 215 yX7_compares, Cond.instanceMethod yX7_compares, Cond.selects RX7 yX7_compares yX7_compares, Cond.code yX7_compares cX7_compares 4 (some .int), Cond.methodLink RX7 212 yX7_tellsOathOf, Cond.instanceMethod yX7_tellsOathOf, Cond.selects RX7 yX7_tellsOathOf yX7_tellsOathOf, Cond.code yX7_tellsOathOf cX7_tellsOathOf 4 (some .int), Cond.methodLink RL 155 yL_oath, Cond.static yL_oath, Cond.codeWith yL_oath cL_oath 5 (some .int) [(0, 10, 13, 13)]]
def wsL_law0_r35 : List Cond := [Cond.methodLink RL 65 yX6_oath, Cond.instanceMethod yX6_oath, Cond.selects RX6 yX6_oath yX6_oath, Cond.code yX6_oath cX6_oath 3 (some .int), Cond.methodLink RX6 226 yX1_numberOf, Cond.instanceMethod yX1_numberOf, Cond.selects RX1 yX1_numberOf yX1_numberOf, Cond.code yX1_numberOf cX1_numberOf 3 (some .int), Cond.methodLink RX1 65 yX1_holdsTogether, Cond.instanceMethod yX1_holdsTogether, Cond.selects RX1 yX1_holdsTogether yX1_holdsTogether, Cond.code yX1_holdsTogether cX1_holdsTogether 2 (some .boolean), Cond.methodLink RX1 73 yX1_leads, Cond.methodLink RL 157 yX7_oath, Cond.instanceMethod yX7_oath, Cond.selects RX7 yX7_oath yX7_oath, Cond.code yX7_oath cX7_oath 3 (some .int), Cond.methodLink RX7 221 yX7_tellsOath, Cond.instanceMethod yX7_tellsOath, Cond.selects RX7 yX7_tellsOath yX7_tellsOath, Cond.code yX7_tellsOath cX7_tellsOath 3 (some .int), Cond.methodLink RX7 218 yX7_holds, Cond.instanceMethod yX7_holds, Cond.selects RX7 yX7_holds yX7_holds]
def wsL_law0_r36 : List Cond := [Cond.code yX7_holds cX7_holds 2 (some .boolean), Cond.methodLink RL 158 yL_count, Cond.static yL_count, Cond.codeWith yL_count cL_count 4 (some .int) [(0, 9, 12, 13)], Cond.methodLink RL 68 yX6_count, Cond.instanceMethod yX6_count, Cond.selects RX6 yX6_count yX6_count, Cond.code yX6_count cX6_count 2 (some .int), Cond.methodLink RX6 231 yX6_toldCount, Cond.instanceMethod yX6_toldCount, Cond.selects RX6 yX6_toldCount yX6_toldCount, Cond.code yX6_toldCount cX6_toldCount 2 (some .int), Cond.methodLink RX6 281 yX4_numberOfAll, Cond.instanceMethod yX4_numberOfAll, Cond.selects RX4 yX4_numberOfAll yX4_numberOfAll, Cond.code yX4_numberOfAll cX4_numberOfAll 2 (some .int), Cond.methodLink RX4 115 yX1_ofOneHand, Cond.instanceMethod yX1_ofOneHand, Cond.selects RX1 yX1_ofOneHand yX1_ofOneHand, Cond.code yX1_ofOneHand cX1_ofOneHand 3 (some .int), Cond.methodLink RX4 119 yX4_hands, Cond.methodLink RX4 122 yX4_mostOfAHand, Cond.instanceMethod yX4_mostOfAHand, Cond.selects RX4 yX4_mostOfAHand yX4_mostOfAHand]
def wsL_law0_r37 : List Cond := [Cond.code yX4_mostOfAHand cX4_mostOfAHand 5 (some .int), Cond.methodLink RX4 125 yX4_tremblingSheets, Cond.instanceMethod yX4_tremblingSheets, Cond.selects RX4 yX4_tremblingSheets yX4_tremblingSheets, Cond.code yX4_tremblingSheets cX4_tremblingSheets 3 (some .int), Cond.methodLink RX4 131 yX4_likePairs, Cond.instanceMethod yX4_likePairs, Cond.selects RX4 yX4_likePairs yX4_likePairs, Cond.code yX4_likePairs cX4_likePairs 4 (some .int), Cond.methodLink RL 160 yX7_count, Cond.instanceMethod yX7_count, Cond.selects RX7 yX7_count yX7_count, Cond.code yX7_count cX7_count 2 (some .int), Cond.methodLink RX7 236 yX7_tellsCount, Cond.instanceMethod yX7_tellsCount, Cond.selects RX7 yX7_tellsCount yX7_tellsCount, Cond.code yX7_tellsCount cX7_tellsCount 2 (some .int), Cond.methodLink RX7 224 yX7_likeOaths, Cond.instanceMethod yX7_likeOaths, Cond.selects RX7 yX7_likeOaths yX7_likeOaths, Cond.code yX7_likeOaths cX7_likeOaths 3 (some .int), Cond.methodLink RX7 227 yX7_mostOfHand, Cond.instanceMethod yX7_mostOfHand, Cond.selects RX7 yX7_mostOfHand yX7_mostOfHand]
def wsL_law0_r38 : List Cond := [Cond.code yX7_mostOfHand cX7_mostOfHand 5 (some .int), Cond.methodLink RX7 230 yX7_trembling, Cond.instanceMethod yX7_trembling, Cond.selects RX7 yX7_trembling yX7_trembling, Cond.code yX7_trembling cX7_trembling 3 (some .int), Cond.methodLink RX7 233 yX7_likePairs, Cond.instanceMethod yX7_likePairs, Cond.selects RX7 yX7_likePairs yX7_likePairs, Cond.code yX7_likePairs cX7_likePairs 4 (some .int), Cond.methodLink RL 161 yL_whyNot, Cond.static yL_whyNot, Cond.codeWith yL_whyNot cL_whyNot 6 (some .int) [(0, 12, 15, 20)], Cond.methodLink RL 71 yX6_whyNot, Cond.instanceMethod yX6_whyNot, Cond.selects RX6 yX6_whyNot yX6_whyNot, Cond.code yX6_whyNot cX6_whyNot 4 (some .int), Cond.methodLink RL 163 yX7_whyNot, Cond.instanceMethod yX7_whyNot, Cond.selects RX7 yX7_whyNot yX7_whyNot, Cond.code yX7_whyNot cX7_whyNot 4 (some .int), Cond.methodLink RL 164 yL_nearest, Cond.static yL_nearest, Cond.codeWith yL_nearest cL_nearest 4 (some .int) [(0, 9, 12, 20)], Cond.methodLink RL 74 yX6_nearest]
def wsL_law0_r39 : List Cond := [Cond.instanceMethod yX6_nearest, Cond.selects RX6 yX6_nearest yX6_nearest, Cond.code yX6_nearest cX6_nearest 2 (some .int), Cond.methodLink RX6 234 yX4_mostAlike, Cond.instanceMethod yX4_mostAlike, Cond.selects RX4 yX4_mostAlike yX4_mostAlike, Cond.code yX4_mostAlike cX4_mostAlike 6 (some .int), Cond.methodLink RL 166 yX7_nearest, Cond.instanceMethod yX7_nearest, Cond.selects RX7 yX7_nearest yX7_nearest, Cond.code yX7_nearest cX7_nearest 2 (some .int), Cond.methodLink RX7 239 yX7_mostAlike, Cond.instanceMethod yX7_mostAlike, Cond.selects RX7 yX7_mostAlike yX7_mostAlike, Cond.code yX7_mostAlike cX7_mostAlike 5 (some .int), Cond.methodLink RL 167 yL_toleranceFor, Cond.static yL_toleranceFor, Cond.codeWith yL_toleranceFor cL_toleranceFor 6 (some .int) [(0, 12, 15, 20), (0, 12, 19, 13)], Cond.methodLink RL 77 yX6_toleranceFor, Cond.instanceMethod yX6_toleranceFor, Cond.selects RX6 yX6_toleranceFor yX6_toleranceFor, Cond.code yX6_toleranceFor cX6_toleranceFor 4 (some .int), Cond.methodLink RX6 237 yX4_neededTolerance, Cond.instanceMethod yX4_neededTolerance]
def wsL_law0_r40 : List Cond := [Cond.selects RX4 yX4_neededTolerance yX4_neededTolerance, Cond.code yX4_neededTolerance cX4_neededTolerance 7 (some .int), Cond.methodLink RL 169 yX7_toleranceFor, Cond.instanceMethod yX7_toleranceFor, Cond.selects RX7 yX7_toleranceFor yX7_toleranceFor, Cond.code yX7_toleranceFor cX7_toleranceFor 4 (some .int), Cond.methodLink RX7 242 yX7_tolerance, Cond.instanceMethod yX7_tolerance, Cond.selects RX7 yX7_tolerance yX7_tolerance, Cond.code yX7_tolerance cX7_tolerance 5 (some .int), Cond.methodLink RL 170 yL_ifPassed, Cond.static yL_ifPassed, Cond.codeWith yL_ifPassed cL_ifPassed 6 (some .int) [(0, 12, 15, 20), (0, 12, 19, 13)], Cond.methodLink RL 80 yX6_ifPassed, Cond.instanceMethod yX6_ifPassed, Cond.selects RX6 yX6_ifPassed yX6_ifPassed, Cond.code yX6_ifPassed cX6_ifPassed 4 (some .int), Cond.methodLink RX6 240 yX4_likeness, Cond.methodLink RL 172 yX7_ifPassed, Cond.instanceMethod yX7_ifPassed, Cond.selects RX7 yX7_ifPassed yX7_ifPassed, Cond.code yX7_ifPassed cX7_ifPassed 4 (some .int), Cond.methodLink RX7 251 yX7_wouldPass, Cond.instanceMethod yX7_wouldPass]
def wsL_law0_r41 : List Cond := [Cond.selects RX7 yX7_wouldPass yX7_wouldPass, Cond.code yX7_wouldPass cX7_wouldPass 6 (some .int), Cond.methodLink RX7 245 yX7_putAside, Cond.instanceMethod yX7_putAside, Cond.selects RX7 yX7_putAside yX7_putAside, Cond.code yX7_putAside cX7_putAside 2 none, Cond.methodLink RX7 248 yX7_takeBack, Cond.instanceMethod yX7_takeBack, Cond.selects RX7 yX7_takeBack yX7_takeBack, Cond.code yX7_takeBack cX7_takeBack 2 none, Cond.methodLink RL 173 yX6_handShare, Cond.instanceMethod yX6_handShare, Cond.selects RX6 yX6_handShare yX6_handShare, Cond.code yX6_handShare cX6_handShare 1 (some .double), Cond.methodLink RX6 243 yX4_shareOfHands, Cond.instanceMethod yX4_shareOfHands, Cond.selects RX4 yX4_shareOfHands yX4_shareOfHands, Cond.code yX4_shareOfHands cX4_shareOfHands 5 (some .double), Cond.methodLink RL 177 yX7_handShare, Cond.instanceMethod yX7_handShare, Cond.selects RX7 yX7_handShare yX7_handShare, Cond.code yX7_handShare cX7_handShare 1 (some .double), Cond.methodLink RX7 254 yX7_share, Cond.instanceMethod yX7_share]
def wsL_law0_r42 : List Cond := [Cond.selects RX7 yX7_share yX7_share, Cond.code yX7_share cX7_share 6 (some .double), Cond.methodLink RL 178 yX6_digest, Cond.instanceMethod yX6_digest, Cond.selects RX6 yX6_digest yX6_digest, Cond.code yX6_digest cX6_digest 5 (some .long), Cond.constantLong RX6 247 (3919), Cond.methodLink RX6 249 yX6_mix, Cond.static yX6_mix, Cond.code yX6_mix cX6_mix 4 (some .long), Cond.constantLong RX6 285 (31), Cond.methodLink RX6 253 yX6_mixSheet, Cond.instanceMethod yX6_mixSheet, Cond.selects RX6 yX6_mixSheet yX6_mixSheet, Cond.code yX6_mixSheet cX6_mixSheet 7 (some .long), Cond.methodLink RX6 284 yX3_mixInto, Cond.instanceMethod yX3_mixInto, Cond.selects RX3 yX3_mixInto yX3_mixInto, Cond.code yX3_mixInto cX3_mixInto 7 (some .long), Cond.methodLink RX3 59 yX3_toldNumber, Cond.methodLink RX3 66 yX3_toldMark, Cond.methodLink RX6 257 yX6_mixPair, Cond.instanceMethod yX6_mixPair, Cond.selects RX6 yX6_mixPair yX6_mixPair]
def wsL_law0_r43 : List Cond := [Cond.code yX6_mixPair cX6_mixPair 8 (some .long), Cond.methodLink RX6 261 yX6_bitsOf, Cond.static yX6_bitsOf, Cond.code yX6_bitsOf cX6_bitsOf 6 (some .long), Cond.constantLong RX6 287 (1023), Cond.constantDouble RX6 289 (4611686018427387904), Cond.constantDouble RX6 291 (4841369599423283200), Cond.methodLink RX6 265 yX5_mixInto, Cond.instanceMethod yX5_mixInto, Cond.selects RX5 yX5_mixInto yX5_mixInto, Cond.code yX5_mixInto cX5_mixInto 6 (some .long), Cond.methodLink RL 182 yX7_digest, Cond.instanceMethod yX7_digest, Cond.selects RX7 yX7_digest yX7_digest, Cond.code yX7_digest cX7_digest 2 (some .long), Cond.constantLong RX7 268 (3919), Cond.fieldLink RX7 260 "SlantOathsModel" "hash" "J", Cond.methodLink RX7 264 yX7_mix, Cond.instanceMethod yX7_mix, Cond.selects RX7 yX7_mix yX7_mix, Cond.code yX7_mix cX7_mix 3 none, Cond.constantLong RX7 258 (31), Cond.methodLink RX7 270 yX7_mixSheet, Cond.instanceMethod yX7_mixSheet]
def wsL_law0_r44 : List Cond := [Cond.selects RX7 yX7_mixSheet yX7_mixSheet, Cond.code yX7_mixSheet cX7_mixSheet 4 none, Cond.methodLink RX7 273 yJxe99ae_doubleToLongBits_ccdee, Cond.static yJxe99ae_doubleToLongBits_ccdee, Cond.initialized RJxe99ae, Cond.code yJxe99ae_doubleToLongBits_ccdee cJxe99ae_doubleToLongBits_ccdee 2 (some .long), Cond.methodLink RJxe99ae 134 ⟨"java/lang/Double", "doubleToRawLongBits", "(D)J"⟩, Cond.native ⟨"java/lang/Double", "doubleToRawLongBits", "(D)J"⟩, Cond.static ⟨"java/lang/Double", "doubleToRawLongBits", "(D)J"⟩, Cond.initialized "java/lang/Double", Cond.constantLong RJxe99ae 137 (9221120237041090560), Cond.methodLink RJxe99ae 122 yJxe99ae_isNaN_b9ae7, Cond.static yJxe99ae_isNaN_b9ae7, Cond.code yJxe99ae_isNaN_b9ae7 cJxe99ae_isNaN_b9ae7 2 (some .boolean)]
def wsL_law0 : List Cond := (wsL_law0_r1 ++ (wsL_law0_r2 ++ (wsL_law0_r3 ++ (wsL_law0_r4 ++ (wsL_law0_r5 ++ (wsL_law0_r6 ++ (wsL_law0_r7 ++ (wsL_law0_r8 ++ (wsL_law0_r9 ++ (wsL_law0_r10 ++ (wsL_law0_r11 ++ (wsL_law0_r12 ++ (wsL_law0_r13 ++ (wsL_law0_r14 ++ (wsL_law0_r15 ++ (wsL_law0_r16 ++ (wsL_law0_r17 ++ (wsL_law0_r18 ++ (wsL_law0_r19 ++ (wsL_law0_r20 ++ (wsL_law0_r21 ++ (wsL_law0_r22 ++ (wsL_law0_r23 ++ (wsL_law0_r24 ++ (wsL_law0_r25 ++ (wsL_law0_r26 ++ (wsL_law0_r27 ++ (wsL_law0_r28 ++ (wsL_law0_r29 ++ (wsL_law0_r30 ++ (wsL_law0_r31 ++ (wsL_law0_r32 ++ (wsL_law0_r33 ++ (wsL_law0_r34 ++ (wsL_law0_r35 ++ (wsL_law0_r36 ++ (wsL_law0_r37 ++ (wsL_law0_r38 ++ (wsL_law0_r39 ++ (wsL_law0_r40 ++ (wsL_law0_r41 ++ (wsL_law0_r42 ++ (wsL_law0_r43 ++ wsL_law0_r44))))))))))))))))))))))))))))))))))))))))))) ++ wsX60 ++ wsX70 ++ wsX50 ++ wsX40 ++ wsX00 ++ wsX20 ++ wsX30 ++ wsX10 ++ ([] : List Cond)
def wsL_law : List Cond := wsL_law0 ++ (vx_atS RX6 45 "java/lang/IllegalArgumentException" ["java/lang/RuntimeException", "java/lang/Exception"]).filter goodWord ++ (vx_atS RX6 56 "java/lang/IllegalStateException" ["java/lang/RuntimeException", "java/lang/Exception"]).filter goodWord ++ (vx_atS RX6 91 "java/lang/IndexOutOfBoundsException" ["java/lang/RuntimeException", "java/lang/Exception"]).filter goodWord
theorem inlX0 : ∀ w ∈ wsX00, w ∈ wsL_law := fun _ h => List.mem_append_left _ (List.mem_append_left _ (List.mem_append_left _ (List.mem_append_left _ (List.mem_append_left _ (List.mem_append_left _ (List.mem_append_left _ (List.mem_append_right _ h)))))))
theorem inlX1 : ∀ w ∈ wsX10, w ∈ wsL_law := fun _ h => List.mem_append_left _ (List.mem_append_left _ (List.mem_append_left _ (List.mem_append_left _ (List.mem_append_right _ h))))
theorem inlX2 : ∀ w ∈ wsX20, w ∈ wsL_law := fun _ h => List.mem_append_left _ (List.mem_append_left _ (List.mem_append_left _ (List.mem_append_left _ (List.mem_append_left _ (List.mem_append_left _ (List.mem_append_right _ h))))))
theorem inlX3 : ∀ w ∈ wsX30, w ∈ wsL_law := fun _ h => List.mem_append_left _ (List.mem_append_left _ (List.mem_append_left _ (List.mem_append_left _ (List.mem_append_left _ (List.mem_append_right _ h)))))
theorem inlX4 : ∀ w ∈ wsX40, w ∈ wsL_law := fun _ h => List.mem_append_left _ (List.mem_append_left _ (List.mem_append_left _ (List.mem_append_left _ (List.mem_append_left _ (List.mem_append_left _ (List.mem_append_left _ (List.mem_append_left _ (List.mem_append_right _ h))))))))
theorem inlX5 : ∀ w ∈ wsX50, w ∈ wsL_law := fun _ h => List.mem_append_left _ (List.mem_append_left _ (List.mem_append_left _ (List.mem_append_left _ (List.mem_append_left _ (List.mem_append_left _ (List.mem_append_left _ (List.mem_append_left _ (List.mem_append_left _ (List.mem_append_right _ h)))))))))
theorem inlX6 : ∀ w ∈ wsX60, w ∈ wsL_law := fun _ h => List.mem_append_left _ (List.mem_append_left _ (List.mem_append_left _ (List.mem_append_left _ (List.mem_append_left _ (List.mem_append_left _ (List.mem_append_left _ (List.mem_append_left _ (List.mem_append_left _ (List.mem_append_left _ (List.mem_append_left _ (List.mem_append_right _ h)))))))))))
theorem inlX7 : ∀ w ∈ wsX70, w ∈ wsL_law := fun _ h => List.mem_append_left _ (List.mem_append_left _ (List.mem_append_left _ (List.mem_append_left _ (List.mem_append_left _ (List.mem_append_left _ (List.mem_append_left _ (List.mem_append_left _ (List.mem_append_left _ (List.mem_append_left _ (List.mem_append_right _ h))))))))))
abbrev vwCl : List vw_C := [(RX0, TX0, 3), (RX1, TX1, 6), (RX2, TX2, 1), (RX3, TX3, 3), (RX4, TX4, 8), (RX5, TX5, 10), (RX6, TX6, 5), (RX7, TX7, 17)]
end
section
/-! THE GROUND: a method's heap as functions of addresses (what kind each cell is, what its fields and its rows hold), a judgement over it, and a rule for each instruction. -/
-- a state: kinds, reference fields, lengths, int fields, int rows, rows of references, long fields, long rows
abbrev sj_St : Type := (Nat → Option Nat) × (Nat → Nat → Option Nat) × (Nat → Nat) × (Nat → Nat → Int32) × (Nat → Nat → Int32) × (Nat → Nat → Option Nat) × (Nat → Int64) × (Nat → Nat → Int64)
def sj_kd (S : sj_St) : Nat → Option Nat := S.1
def sj_rf (S : sj_St) : Nat → Nat → Option Nat := S.2.1
def sj_il (S : sj_St) : Nat → Nat := S.2.2.1
def sj_fi (S : sj_St) : Nat → Nat → Int32 := S.2.2.2.1
def sj_ia (S : sj_St) : Nat → Nat → Int32 := S.2.2.2.2.1
def sj_ra (S : sj_St) : Nat → Nat → Option Nat := S.2.2.2.2.2.1
def sj_fl (S : sj_St) : Nat → Int64 := S.2.2.2.2.2.2.1
def sj_la (S : sj_St) : Nat → Nat → Int64 := S.2.2.2.2.2.2.2
def sj_up {α : Type} (f : Nat → α) (a : Nat) (v : α) : Nat → α := fun q => if q = a then v else f q
theorem sj_up_self {α : Type} (f : Nat → α) (a : Nat) (v : α) : sj_up f a v a = v := if_pos rfl
theorem sj_up_ne {α : Type} (f : Nat → α) {a q : Nat} (v : α) (h : q ≠ a) : sj_up f a v q = f q := if_neg h
def sj_wFi (S : sj_St) (a k : Nat) (v : Int32) : sj_St := (S.1, S.2.1, S.2.2.1, sj_up S.2.2.2.1 a (sj_up (S.2.2.2.1 a) k v), S.2.2.2.2)
def sj_wFl (S : sj_St) (a : Nat) (v : Int64) : sj_St := (S.1, S.2.1, S.2.2.1, S.2.2.2.1, S.2.2.2.2.1, S.2.2.2.2.2.1, sj_up S.2.2.2.2.2.2.1 a v, S.2.2.2.2.2.2.2)
def sj_wRf (S : sj_St) (a k : Nat) (v : Option Nat) : sj_St := (S.1, sj_up S.2.1 a (sj_up (S.2.1 a) k v), S.2.2)
def sj_wIa (S : sj_St) (a k : Nat) (v : Int32) : sj_St := (S.1, S.2.1, S.2.2.1, S.2.2.2.1, sj_up S.2.2.2.2.1 a (upd (S.2.2.2.2.1 a) k v), S.2.2.2.2.2)
def sj_wRa (S : sj_St) (a k : Nat) (v : Option Nat) : sj_St := (S.1, S.2.1, S.2.2.1, S.2.2.2.1, S.2.2.2.2.1, sj_up S.2.2.2.2.2.1 a (va_up (S.2.2.2.2.2.1 a) k v), S.2.2.2.2.2.2)
def sj_wLa (S : sj_St) (a k : Nat) (v : Int64) : sj_St := (S.1, S.2.1, S.2.2.1, S.2.2.2.1, S.2.2.2.2.1, S.2.2.2.2.2.1, S.2.2.2.2.2.2.1, sj_up S.2.2.2.2.2.2.2 a (vp_updL (S.2.2.2.2.2.2.2 a) k v))
-- the types of the fields by kind: 0 int or boolean, 1 reference, 2 long
def sj_tyl : Nat → List Nat
  | 0 => [1, 0, 0]
  | 1 => [0, 0, 1, 1, 1, 1]
  | 2 => [1]
  | 3 => [0, 1, 1]
  | 4 => [1, 1, 1, 0, 1, 1, 0, 0]
  | 5 => [1, 0, 0, 0, 1, 0, 1, 1, 1, 0]
  | 6 => [1, 1, 1, 1, 0]
  | 7 => [0, 1, 1, 1, 0, 1, 0, 1, 0, 0, 0, 0, 0, 1, 0, 1, 2]
  | _ => []
def sj_fv (S : sj_St) (a j : Nat) : Nat → Value
  | 0 => .int (sj_fi S a j)
  | 1 => va_rf (sj_rf S a j)
  | _ => .long (sj_fl S a)
def sj_fs (S : sj_St) (a : Nat) : Nat → List Nat → List Value
  | _, [] => []
  | j, t :: ts => sj_fv S a j t :: sj_fs S a (j + 1) ts
theorem sj_fs_len (S : sj_St) (a : Nat) : ∀ (l : List Nat) (j : Nat), (sj_fs S a j l).length = l.length
  | [], _ => rfl
  | _ :: ts, j => congrArg (· + 1) (sj_fs_len S a ts (j + 1))
theorem sj_fs_get (S : sj_St) (a : Nat) : ∀ (l : List Nat) (j k t : Nat), l[k]? = some t → (sj_fs S a j l)[k]? = some (sj_fv S a (j + k) t)
  | [], _, _, _, h => by simp at h
  | u :: us, j, 0, t, h => by
    have h1 : u = t := by simpa using h
    subst h1
    rfl
  | u :: us, j, k + 1, t, h => by
    have h1 : us[k]? = some t := by simpa using h
    have h2 := sj_fs_get S a us (j + 1) k t h1
    have h3 : j + 1 + k = j + (k + 1) := by omega
    rw [h3] at h2
    simpa [sj_fs] using h2
theorem sj_fs_congr {S S' : sj_St} {a : Nat} : ∀ (l : List Nat) (j : Nat), (∀ i t, l[i]? = some t → sj_fv S' a (j + i) t = sj_fv S a (j + i) t) → sj_fs S' a j l = sj_fs S a j l
  | [], _, _ => rfl
  | u :: us, j, h => by
    have h0 := h 0 u rfl
    have h1 := sj_fs_congr (S := S) (S' := S') (a := a) us (j + 1) (fun i t hi => by
      have h2 := h (i + 1) t (by simpa using hi)
      have h3 : j + 1 + i = j + (i + 1) := by omega
      rw [h3]; exact h2)
    show sj_fv S' a j u :: sj_fs S' a (j + 1) us = sj_fv S a j u :: sj_fs S a (j + 1) us
    rw [h1]
    exact congrArg (· :: _) h0
theorem sj_fs_set {S S' : sj_St} {a : Nat} : ∀ (l : List Nat) (j k : Nat) (v : Value), k < l.length → (∀ t, l[k]? = some t → sj_fv S' a (j + k) t = v) → (∀ i t, l[i]? = some t → i ≠ k → sj_fv S' a (j + i) t = sj_fv S a (j + i) t) → (sj_fs S a j l).set k v = sj_fs S' a j l
  | [], _, _, _, hk, _, _ => by simp at hk
  | u :: us, j, 0, v, _, hv, ho => by
    have h1 := sj_fs_congr (S := S) (S' := S') (a := a) us (j + 1) (fun i t hi => by
      have h2 := ho (i + 1) t (by simpa using hi) (by omega)
      have h3 : j + 1 + i = j + (i + 1) := by omega
      rw [h3]; exact h2)
    have h0 := hv u rfl
    show v :: sj_fs S a (j + 1) us = sj_fv S' a j u :: sj_fs S' a (j + 1) us
    rw [h1]
    exact congrArg (· :: _) h0.symm
  | u :: us, j, k + 1, v, hk, hv, ho => by
    have h1 := sj_fs_set (S := S) (S' := S') (a := a) us (j + 1) k v (by simpa using hk) (fun t ht => by
        have h2 := hv t (by simpa using ht)
        have h3 : j + 1 + k = j + (k + 1) := by omega
        rw [h3]; exact h2) (fun i t hi hne => by
        have h2 := ho (i + 1) t (by simpa using hi) (by omega)
        have h3 : j + 1 + i = j + (i + 1) := by omega
        rw [h3]; exact h2)
    have h0 := ho 0 u rfl (by omega)
    show sj_fv S a j u :: (sj_fs S a (j + 1) us).set k v = sj_fv S' a j u :: sj_fs S' a (j + 1) us
    rw [h1]
    exact congrArg (· :: _) h0.symm
def sj_ce (cy : Nat → ClassId) (S : sj_St) (a : Nat) : Nat → va_E
  | 8 => .inl (cy 0, sj_il S a, .inl (sj_ia S a))
  | 9 => .inl (cy 1, sj_il S a, .inr (.inr (.inr (.inr (sj_ra S a)))))
  | 10 => .inl (cy 2, sj_il S a, .inr (.inr (.inr (.inr (sj_ra S a)))))
  | 11 => .inl (cy 3, sj_il S a, .inr (.inl (sj_la S a)))
  | ci => .inr (ci, sj_fs S a 0 (sj_tyl ci))
theorem sj_ce_obj (cy : Nat → ClassId) (S : sj_St) (a : Nat) {ci : Nat} (h : ci < 8) : sj_ce cy S a ci = .inr (ci, sj_fs S a 0 (sj_tyl ci)) := by
  match ci, h with
  | 0, _ => rfl
  | 1, _ => rfl
  | 2, _ => rfl
  | 3, _ => rfl
  | 4, _ => rfl
  | 5, _ => rfl
  | 6, _ => rfl
  | 7, _ => rfl
def sj_WA (cy : Nat → ClassId) (S : sj_St) (ws : va_W) : Prop := ∀ a ci, sj_kd S a = some ci → ∃ q0 : Nat, ws[q0]? = some (a, sj_ce cy S a ci)
def sj_HP (D : va_G) (cy : Nat → ClassId) (A : Nat → Prop) (S : sj_St) (H : Heap) : Prop := ∃ ws : va_W, va_P D vwCl ws H ∧ va_D A ws ∧ sj_WA cy S ws
abbrev sj_tys (cy : Nat → ClassId) : List (ClassId × FieldType) := [(cy 0, .int), (cy 1, .object "SlantOaths$Sheet"), (cy 2, .object "SlantOaths$Table"), (cy 3, .long)]
/-- one cell is written -/
theorem sj_WA_set {cy : Nat → ClassId} {S S' : sj_St} {ws : va_W} {q0 a ci : Nat} {e : va_E} (h : sj_WA cy S ws) (hkd : sj_kd S' = sj_kd S) (hq : ws[q0]? = some (a, e)) (hk : sj_kd S a = some ci) (hs : ∀ b cj, b ≠ a → sj_ce cy S' b cj = sj_ce cy S b cj) : sj_WA cy S' (ws.set q0 (a, sj_ce cy S' a ci)) := by
  intro b cj hb
  rw [hkd] at hb
  by_cases hba : b = a
  · subst hba
    cases hb.symm.trans hk
    refine ⟨q0, ?_⟩
    rw [List.getElem?_set_self' , hq]
    rfl
  · obtain ⟨q1, h1⟩ := h b cj hb
    refine ⟨q1, ?_⟩
    have hne : q0 ≠ q1 := by
      intro hc
      subst hc
      rw [hq] at h1
      cases h1
      exact hba rfl
    rw [List.getElem?_set_ne hne, h1, hs b cj hba]
def sj_NWl : List Cond := [.fieldLinkNest "SlantOaths" 48 "SlantOaths$Table" "size" "I" "SlantOaths", .fieldLinkNest "SlantOaths" 63 "SlantOaths$Text" "strokes" "I" "SlantOaths", .fieldLinkNest "SlantOaths" 66 "SlantOaths$Text" "numbers" "LSlantOaths$Row;" "SlantOaths", .fieldLinkNest "SlantOaths" 109 "SlantOaths$Table" "settings" "LSlantOaths$Row;" "SlantOaths", .fieldLinkNest "SlantOaths" 131 "SlantOaths$Table" "oaths" "LSlantOaths$Oaths;" "SlantOaths", .fieldLinkNest "SlantOaths" 155 "SlantOaths$Text" "length" "I" "SlantOaths", .fieldLinkNest "SlantOaths" 165 "SlantOaths$Text" "place" "I" "SlantOaths", .fieldLinkNest "SlantOaths" 173 "SlantOaths$Text" "parts" "I" "SlantOaths", .fieldLinkNest "SlantOaths" 181 "SlantOaths$Table" "stopPart" "I" "SlantOaths", .fieldLinkNest "SlantOaths" 184 "SlantOaths$Table" "stopReason" "I" "SlantOaths", .fieldLinkNest "SlantOaths" 187 "SlantOaths$History" "size" "I" "SlantOaths", .fieldLinkNest "SlantOaths" 225 "SlantOaths$Oaths" "size" "I" "SlantOaths", .fieldLinkNest "SlantOaths" 269 "SlantOaths$Text" "firsts" "LSlantOaths$Row;" "SlantOaths", .fieldLinkNest "SlantOaths" 272 "SlantOaths$Text" "seconds" "LSlantOaths$Row;" "SlantOaths", .fieldLinkNest "SlantOaths" 275 "SlantOaths$Text" "kinds" "LSlantOaths$Row;" "SlantOaths", .fieldLinkNest "SlantOaths$Table" 50 "SlantOaths" "FIRST_SETTINGS" "[I" "SlantOaths", .fieldLinkNest "SlantOaths$Table" 95 "SlantOaths$Sheet" "strokes" "I" "SlantOaths", .fieldLinkNest "SlantOaths$Table" 114 "SlantOaths$Oaths" "size" "I" "SlantOaths", .fieldLinkNest "SlantOaths$Table" 128 "SlantOaths$Oaths" "sworn" "I" "SlantOaths", .fieldLinkNest "SlantOaths$Table" 163 "SlantOaths$Sheet" "marks" "LSlantOaths$Row;" "SlantOaths", .methodLinkNest "SlantOaths" 9 ⟨"SlantOaths$Text", "<init>", "()V"⟩ "SlantOaths", .methodLinkNest "SlantOaths$Sheet" 62 ⟨"SlantOaths", "mix", "(JJ)J"⟩ "SlantOaths", .methodLinkNest "SlantOaths$Table" 35 ⟨"SlantOaths$Oaths", "<init>", "()V"⟩ "SlantOaths", .methodLinkNest "SlantOaths$Table" 58 ⟨"SlantOaths$Oaths", "joinHands", "()V"⟩ "SlantOaths", .methodLinkNest "SlantOaths$Text" 40 ⟨"SlantOaths", "mix", "(JJ)J"⟩ "SlantOaths"]
def sj_nest : Cond → Bool
  | .fieldLinkNest .. => true
  | .methodLinkNest .. => true
  | _ => false
theorem sj_NWl_ok : sj_NWl.all sj_nest = true := by decide +kernel
def sj_NW (U : State) : Prop := ∀ w ∈ sj_NWl, va_Nw w U
theorem sj_NW_warm {s U : State} (hW : s.WarmedH U.vm) (h : sj_NW s) : sj_NW U := by
  intro w hw
  have h1 := List.all_eq_true.mp sj_NWl_ok w hw
  have h2 := h w hw
  cases w with
  | fieldLinkNest a b c d e f => exact va_Nw.warmF hW h2
  | methodLinkNest a b c d => exact va_Nw.warmM hW h2
  | _ => simp [sj_nest] at h1
theorem sj_NW_same {u U : State} (h : u.vm = U.vm) (hN : sj_NW u) : sj_NW U := by
  intro w hw
  have h1 := List.all_eq_true.mp sj_NWl_ok w hw
  have h2 := hN w hw
  cases w with
  | fieldLinkNest a b c d e f => exact va_Nw.same rfl h h2
  | methodLinkNest a b c d => exact va_Nw.same rfl h h2
  | _ => simp [sj_nest] at h1
def sj_t1 : Nat → Int32 := fun j => ([4, 10, 3, 20, 8, 6, 40, 2, 4] : List Int32).getD j 0
def sj_t2 : Nat → Int32 := fun j => ([50, 50, 50, 50, 50, 50, 99, 9, 6] : List Int32).getD j 0
/-- the two static rows of the class -/
def sj_ZS (A : Nat → Prop) (U : State) (H : Heap) : Prop := ∃ t1 t2 : Nat, va_Z "SlantOaths" "FIRST_SETTINGS" "[I" (.ref t1) A U H ∧ va_T .int t1 9 (fun j => .int (sj_t1 j)) A U H ∧ va_Z "SlantOaths" "MOST_OF_SETTING" "[I" (.ref t2) A U H ∧ va_T .int t2 9 (fun j => .int (sj_t2 j)) A U H
theorem sj_ZS_moved {A : Nat → Prop} {u U : State} {H : Heap} (hvm : u.vm.Alike U.vm) (h : sj_ZS A u H) : sj_ZS A U H := by
  obtain ⟨t1, t2, h1, h2, h3, h4⟩ := h
  exact ⟨t1, t2, h1.moved hvm, h2.moved hvm, h3.moved hvm, h4.moved hvm⟩
theorem sj_ZS_kept {A : Nat → Prop} {U : State} {H H1 : Heap} (h : sj_ZS A U H) (hq : ∀ a : Nat, a < H.size → ¬ A a → H1[a]? = H[a]?) : sj_ZS A U H1 := by
  obtain ⟨t1, t2, h1, h2, h3, h4⟩ := h
  exact ⟨t1, t2, h1.kept hq, h2.kept hq, h3.kept hq, h4.kept hq⟩
/-- what else holds wherever a method of ours is called -/
def sj_Am (A : Nat → Prop) (U : State) (H : Heap) : Prop := sj_NW U ∧ sj_ZS A U H
theorem sj_Am_warm {A : Nat → Prop} {s U : State} {H : Heap} (hW : s.WarmedH U.vm) (h : sj_Am A s H) : sj_Am A U H := ⟨sj_NW_warm hW h.1, sj_ZS_moved hW.alike h.2⟩
theorem sj_Am_same {A : Nat → Prop} {u U : State} {H : Heap} (hvm : u.vm = U.vm) (h : sj_Am A u H) : sj_Am A U H := ⟨sj_NW_same hvm h.1, sj_ZS_moved (by rw [hvm]; exact Vm.Alike.refl _) h.2⟩
theorem sj_Am_kept {A : Nat → Prop} {U : State} {H H1 : Heap} (h : sj_Am A U H) (hq : ∀ a : Nat, a < H.size → ¬ A a → H1[a]? = H[a]?) : sj_Am A U H1 := ⟨h.1, sj_ZS_kept h.2 hq⟩
abbrev sj_GT : List Cond := wsL_law
-- a method: its name, its code, its locals, what it returns; frames, locals, cells and slots that it may ask for
abbrev sj_M : Type := MethodName × ByteArray × Nat × Option FieldType × Nat × Nat × Nat × Nat
abbrev sj_X : Type := Program × Launch × Env × Room × State × MethodId × Array Value × List Frame × Method × Code × va_G × (Nat → ClassId) × (Nat → Prop) × Nat × (State → Prop)
def sj_lv : Nat → List (Option Value) → List (Nat × Value)
  | _, [] => []
  | i, none :: t => sj_lv (i + 1) t
  | i, some v :: t => (i, v) :: sj_lv (i + 1) t
theorem sj_lv_mem : ∀ (L : List (Option Value)) (i k : Nat) (v : Value), L[k]? = some (some v) → (i + k, v) ∈ sj_lv i L
  | [], _, _, _, h => by simp at h
  | none :: t, i, 0, v, h => by simp at h
  | some w :: t, i, 0, v, h => by
    have : w = v := by simpa using h
    subst this
    exact List.mem_cons_self
  | none :: t, i, k + 1, v, h => by
    have h1 := sj_lv_mem t (i + 1) k v (by simpa using h)
    have h3 : i + 1 + k = i + (k + 1) := by omega
    rw [h3] at h1
    exact h1
  | some w :: t, i, k + 1, v, h => by
    have h1 := sj_lv_mem t (i + 1) k v (by simpa using h)
    have h3 : i + 1 + k = i + (k + 1) := by omega
    rw [h3] at h1
    exact List.mem_cons_of_mem _ h1
theorem sj_lv_inv : ∀ (L : List (Option Value)) (i : Nat) (q : Nat × Value), q ∈ sj_lv i L → ∃ k, q.1 = i + k ∧ L[k]? = some (some q.2)
  | [], _, _, h => by simp [sj_lv] at h
  | none :: t, i, q, h => by
    obtain ⟨k, h1, h2⟩ := sj_lv_inv t (i + 1) q h
    exact ⟨k + 1, by omega, by simpa using h2⟩
  | some w :: t, i, q, h => by
    rcases List.mem_cons.mp h with h | h
    · subst h
      exact ⟨0, by simp, by simp⟩
    · obtain ⟨k, h1, h2⟩ := sj_lv_inv t (i + 1) q h
      exact ⟨k + 1, by omega, by simpa using h2⟩
def sj_okb (L : List (Option Value)) : Nat → Bool
  | 0 => true
  | j + 1 => match L[j]? with
    | some (some w) => !(w.category == 2)
    | _ => true
def sj_G (X : sj_X) (S : sj_St) (cl sl : Nat) (L : List (Option Value)) (pc : Nat) (st : List Value) : Prop := match X with
  | (p, l, e, R, s, m, args, below, meth, c, D, cy, A, nL, Q) => ∀ (H : Heap) (locs : List Loc) (ls : Array Slot), sj_HP D cy A S H → va_S A s.heap H locs → lv_has ls nL (sj_lv 0 L) → W p l e R s m args below meth c H locs cl sl Q (F0 m pc ls st)
def sj_C (X : sj_X) (M : sj_M) : Prop := match X, M with
  | (p, _, _, R, s, m, args, _, meth, c, D, cy, A, nL, _), (y, cc, nL0, ret, fr, lo, mc, ms) =>
    p.tables.exec = Jvm.exec ∧ c.code = cc ∧ (c.maxLocals = nL ∧ nL = nL0) ∧ s.vm.findClass y.cls = some m.cls ∧ (∀ w ∈ sj_GT, w.before args s = true) ∧ (meth.locks = false ∧ meth.sig.returnType = ret ∧ meth.name = y.name) ∧ va_K D vwCl (sj_tys cy) s ∧ sj_Am A s s.heap ∧ (∀ q, s.heap.size ≤ q → A q) ∧ R = { frames := fr, cells := mc, slots := ms, locals := lo }
def sj_In (D : va_G) (cy : Nat → ClassId) (A : Nat → Prop) (S : sj_St) (sz : Nat) (U : State) : Prop := U.heap.size = sz ∧ sj_HP D cy A S U.heap ∧ va_K D vwCl (sj_tys cy) U ∧ sj_Am A U U.heap
def sj_Qc (D : va_G) (cy : Nat → ClassId) (A : Nat → Prop) (Post : Option Value → sj_St → Prop) : Array Value → State → Outcome → State → Prop := fun _ st oc t => (∃ (r : Option Value) (S' : sj_St), oc = .returned r ∧ Post r S' ∧ sj_HP D cy A S' t.heap) ∧ va_F A st t
/-- a contract: called with av over S, the method returns, and what it returns and the state behind it are as Post says -/
def sj_Ctr (l : Launch) (M : sj_M) (av : List Value) (S : sj_St) (Post : Option Value → sj_St → Prop) : Prop := match M with
  | (y, cc, nL, ret, fr, lo, mc, ms) => ∀ (D : va_G) (cy : Nat → ClassId) (A : Nat → Prop) (sz : Nat), (∀ q, sz ≤ q → A q) → Met l y (.code y cc nL ret :: sj_GT) { frames := fr, cells := mc, slots := ms, locals := lo } (va_Pc av (sj_In D cy A S sz)) (sj_Qc D cy A Post) mc ms A
def sj_R (X : sj_X) (M : sj_M) (Post : Option Value → sj_St → Prop) : Prop := match X, M with
  | (_, _, _, _, s, _, args, below, _, _, D, cy, A, _, Q), (_, _, _, _, _, _, mc, ms) => Q = MQ below (sj_Qc D cy A Post) args s mc ms A
theorem sj_blind {D : va_G} {cy : Nat → ClassId} {A : Nat → Prop} {S : sj_St} {sz : Nat} {av : List Value} : FrameBlind (va_Pc av (sj_In D cy A S sz)) := fun a U g mk q => by
  obtain ⟨q0, q1, q2, q3, q4⟩ := q
  exact ⟨q0, q1, q2, va_K.moved (u := U) (U := U.calling g mk a) (Vm.Alike.refl U.vm) q3, sj_Am_same (u := U) (U := U.calling g mk a) rfl q4⟩
theorem sj_start {l : Launch} {M : sj_M} {av : List Value} {S : sj_St} {Post : Option Value → sj_St → Prop} (L0 : List (Option Value)) (hy : plainName M.1.cls = true) (hlen : Nat.ble (lg_sl av).length M.2.2.1 = true) (hL : sj_lv 0 L0 = lv_args 0 av) (body : ∀ X : sj_X, X.2.1 = l → sj_C X M → sj_R X M Post → sj_G X S 0 0 L0 0 []) : sj_Ctr l M av S Post := by
  obtain ⟨y, cc, nL, ret, fr, lo, mc, ms⟩ := M
  intro D cy A sz hA
  refine Met.ofW (cc := cc) (maxL := nL) (ret := ret) hy rfl ?_
  intro p e s m args below meth c s₁ B hml hv
  obtain ⟨rfl, hsz, hP, hK, hAm⟩ := hv
  have hts := atoms_spec (ws := .code y cc nL ret :: sj_GT) B.pre
  subst hsz
  have h1 := body (p, l, e, _, s, m, _, below, meth, c, D, cy, A, nL, _) rfl ⟨B.exec, B.bytes, ⟨hml, rfl⟩, findClass_of_methodNamed B.named, fun w hw => hts w (List.mem_cons_of_mem _ hw), ⟨B.notSynchronized, B.returns, (name_of_methodNamed B.named B.method).1⟩, hK, hAm, hA, rfl⟩ rfl
  rw [lg_entry_eq]
  refine h1 s.heap [] _ hP va_S.rf ?_
  rw [hL]
  exact lv_entry av (Nat.le_of_ble_eq_true hlen)
-- ===== what a call needs: by the number of the entry in the caller's table =====
def sj_V (own : String) (idx : Nat) (M : sj_M) (n : Nat) : Prop := match M with
  | (y, cc, nL, ret, _, _, _, _) => Cond.methodLink own idx y ∈ sj_GT ∧ Cond.instanceMethod y ∈ sj_GT ∧ Cond.selects y.cls y y ∈ sj_GT ∧ Cond.initialized y.cls ∈ sj_GT ∧ Cond.code y cc nL ret ∈ sj_GT ∧ (y.cls ≠ "java/lang/invoke/MethodHandle" ∧ y.cls ≠ "java/lang/invoke/VarHandle") ∧ (parseMethodDescriptor y.desc).map (fun d => d.parameters.length) = some n
def sj_Vn (own : String) (idx : Nat) (M : sj_M) (n : Nat) : Prop := match M with
  | (y, cc, nL, ret, _, _, _, _) => Cond.methodLinkNest own idx y "SlantOaths" ∈ sj_NWl ∧ Cond.instanceMethod y ∈ sj_GT ∧ Cond.selects y.cls y y ∈ sj_GT ∧ Cond.initialized y.cls ∈ sj_GT ∧ Cond.code y cc nL ret ∈ sj_GT ∧ (y.cls ≠ "java/lang/invoke/MethodHandle" ∧ y.cls ≠ "java/lang/invoke/VarHandle") ∧ (parseMethodDescriptor y.desc).map (fun d => d.parameters.length) = some n
def sj_Vs (own : String) (idx : Nat) (M : sj_M) (n : Nat) : Prop := match M with
  | (y, cc, nL, ret, _, _, _, _) => Cond.methodLink own idx y ∈ sj_GT ∧ Cond.static y ∈ sj_GT ∧ Cond.initialized y.cls ∈ sj_GT ∧ Cond.code y cc nL ret ∈ sj_GT ∧ (y.cls ≠ "java/lang/invoke/MethodHandle" ∧ y.cls ≠ "java/lang/invoke/VarHandle") ∧ (parseMethodDescriptor y.desc).map (fun d => d.parameters.length) = some n
def sj_Vsn (own : String) (idx : Nat) (M : sj_M) (n : Nat) : Prop := match M with
  | (y, cc, nL, ret, _, _, _, _) => Cond.methodLinkNest own idx y "SlantOaths" ∈ sj_NWl ∧ Cond.static y ∈ sj_GT ∧ Cond.initialized y.cls ∈ sj_GT ∧ Cond.code y cc nL ret ∈ sj_GT ∧ (y.cls ≠ "java/lang/invoke/MethodHandle" ∧ y.cls ≠ "java/lang/invoke/VarHandle") ∧ (parseMethodDescriptor y.desc).map (fun d => d.parameters.length) = some n
theorem sj_GT_good : GoodIn sj_GT sj_GT := goodIn_sub (fun _ h => h) (by decide +kernel)
theorem sj_good (y : MethodName) (cc : ByteArray) (nL : Nat) (ret : Option FieldType) (h : Cond.code y cc nL ret ∈ sj_GT) : GoodIn sj_GT (.code y cc nL ret :: sj_GT) := by
  intro w hw
  rcases List.mem_cons.mp hw with h1 | h1
  · subst h1
    exact sj_GT_good _ h
  · exact sj_GT_good _ h1
def sj_fit (M N : sj_M) (cl sl : Nat) : Bool := Nat.ble (N.2.2.2.2.1 + 1) M.2.2.2.2.1 && (Nat.ble (8 + (N.2.2.1 + 11) + N.2.2.2.2.2.1) M.2.2.2.2.2.1 && (Nat.ble (cl + N.2.2.2.2.2.2.1) M.2.2.2.2.2.2.1 && Nat.ble (sl + N.2.2.2.2.2.2.2) M.2.2.2.2.2.2.2))
theorem sj_fit_of {M N : sj_M} {cl sl : Nat} (h : sj_fit M N cl sl = true) : N.2.2.2.2.1 + 1 ≤ M.2.2.2.2.1 ∧ 8 + (N.2.2.1 + 11) + N.2.2.2.2.2.1 ≤ M.2.2.2.2.2.1 ∧ cl + N.2.2.2.2.2.2.1 ≤ M.2.2.2.2.2.2.1 ∧ sl + N.2.2.2.2.2.2.2 ≤ M.2.2.2.2.2.2.2 := by
  simp only [sj_fit, Bool.and_eq_true] at h
  exact ⟨Nat.le_of_ble_eq_true h.1, Nat.le_of_ble_eq_true h.2.1, Nat.le_of_ble_eq_true h.2.2.1, Nat.le_of_ble_eq_true h.2.2.2⟩
end
section
theorem sj_iconst {X : sj_X} {M : sj_M} (C : sj_C X M) {S : sj_St} {cl sl : Nat} {L : List (Option Value)} {pc : Nat} {rest : List Value} {n : Int} (q : Nat) (hq : pc + 1 = q) (hd : decode M.2.1 pc = .ok (.iconst n, 1)) (k : sj_G X S cl sl L q (.int (Int32.ofInt n) :: rest)) : sj_G X S cl sl L pc (rest) := by
  obtain ⟨p, l, e, R, s, m, args, below, meth, c, D, cy, A, nL, Q⟩ := X
  obtain ⟨ym, cc, nL0, ret, fr, lo, mc, ms⟩ := M
  obtain ⟨hx, hb, ⟨hml, hnL⟩, hown, hts, ⟨hlk, hret, hnm⟩, hK, hAm, hA, hRR⟩ := C
  subst hq
  intro H locs ls h1 h2 h3
  exact lv_iconst hx hb hd rfl (k H locs ls h1 h2 h3)
theorem sj_iconstv {X : sj_X} {M : sj_M} (C : sj_C X M) {S : sj_St} {cl sl : Nat} {L : List (Option Value)} {pc : Nat} {rest : List Value} {n : Int} (v : Int32) (q : Nat) (hq : pc + 1 = q) (hd : decode M.2.1 pc = .ok (.iconst n, 1)) (hv : Int32.ofInt n = v) (k : sj_G X S cl sl L q (.int v :: rest)) : sj_G X S cl sl L pc (rest) := by
  obtain ⟨p, l, e, R, s, m, args, below, meth, c, D, cy, A, nL, Q⟩ := X
  obtain ⟨ym, cc, nL0, ret, fr, lo, mc, ms⟩ := M
  obtain ⟨hx, hb, ⟨hml, hnL⟩, hown, hts, ⟨hlk, hret, hnm⟩, hK, hAm, hA, hRR⟩ := C
  subst hq
  intro H locs ls h1 h2 h3
  exact lv_iconst hx hb hd hv (k H locs ls h1 h2 h3)
theorem sj_bipush {X : sj_X} {M : sj_M} (C : sj_C X M) {S : sj_St} {cl sl : Nat} {L : List (Option Value)} {pc : Nat} {rest : List Value} {n : Int} (v : Int32) (q : Nat) (hq : pc + 2 = q) (hd : decode M.2.1 pc = .ok (.bipush n, 2)) (hv : (Int8.ofInt n).toInt32 = v) (k : sj_G X S cl sl L q (.int v :: rest)) : sj_G X S cl sl L pc (rest) := by
  obtain ⟨p, l, e, R, s, m, args, below, meth, c, D, cy, A, nL, Q⟩ := X
  obtain ⟨ym, cc, nL0, ret, fr, lo, mc, ms⟩ := M
  obtain ⟨hx, hb, ⟨hml, hnL⟩, hown, hts, ⟨hlk, hret, hnm⟩, hK, hAm, hA, hRR⟩ := C
  subst hq
  intro H locs ls h1 h2 h3
  exact lv_bipush hx hb hd hv (k H locs ls h1 h2 h3)
theorem sj_sipush {X : sj_X} {M : sj_M} (C : sj_C X M) {S : sj_St} {cl sl : Nat} {L : List (Option Value)} {pc : Nat} {rest : List Value} {n : Int} (v : Int32) (q : Nat) (hq : pc + 3 = q) (hd : decode M.2.1 pc = .ok (.sipush n, 3)) (hv : (Int16.ofInt n).toInt32 = v) (k : sj_G X S cl sl L q (.int v :: rest)) : sj_G X S cl sl L pc (rest) := by
  obtain ⟨p, l, e, R, s, m, args, below, meth, c, D, cy, A, nL, Q⟩ := X
  obtain ⟨ym, cc, nL0, ret, fr, lo, mc, ms⟩ := M
  obtain ⟨hx, hb, ⟨hml, hnL⟩, hown, hts, ⟨hlk, hret, hnm⟩, hK, hAm, hA, hRR⟩ := C
  subst hq
  intro H locs ls h1 h2 h3
  exact lv_sipush hx hb hd hv (k H locs ls h1 h2 h3)
theorem sj_lconst {X : sj_X} {M : sj_M} (C : sj_C X M) {S : sj_St} {cl sl : Nat} {L : List (Option Value)} {pc : Nat} {rest : List Value} {n : Fin 2} (v : Int64) (q : Nat) (hq : pc + 1 = q) (hd : decode M.2.1 pc = .ok (.lconst n, 1)) (hv : Int64.ofNat (n : Nat) = v) (k : sj_G X S cl sl L q (.long v :: rest)) : sj_G X S cl sl L pc (rest) := by
  obtain ⟨p, l, e, R, s, m, args, below, meth, c, D, cy, A, nL, Q⟩ := X
  obtain ⟨ym, cc, nL0, ret, fr, lo, mc, ms⟩ := M
  obtain ⟨hx, hb, ⟨hml, hnL⟩, hown, hts, ⟨hlk, hret, hnm⟩, hK, hAm, hA, hRR⟩ := C
  subst hq
  intro H locs ls h1 h2 h3
  exact lv_lconst hx hb hd hv (k H locs ls h1 h2 h3)
theorem sj_null {X : sj_X} {M : sj_M} (C : sj_C X M) {S : sj_St} {cl sl : Nat} {L : List (Option Value)} {pc : Nat} {rest : List Value}  (q : Nat) (hq : pc + 1 = q) (hd : decode M.2.1 pc = .ok (.aconst_null, 1)) (k : sj_G X S cl sl L q (.null :: rest)) : sj_G X S cl sl L pc (rest) := by
  obtain ⟨p, l, e, R, s, m, args, below, meth, c, D, cy, A, nL, Q⟩ := X
  obtain ⟨ym, cc, nL0, ret, fr, lo, mc, ms⟩ := M
  obtain ⟨hx, hb, ⟨hml, hnL⟩, hown, hts, ⟨hlk, hret, hnm⟩, hK, hAm, hA, hRR⟩ := C
  subst hq
  intro H locs ls h1 h2 h3
  exact lv_null hx hb hd (k H locs ls h1 h2 h3)
theorem sj_iadd {X : sj_X} {M : sj_M} (C : sj_C X M) {S : sj_St} {cl sl : Nat} {L : List (Option Value)} {pc : Nat} {rest : List Value} {x y : Int32} (q : Nat) (hq : pc + 1 = q) (hd : decode M.2.1 pc = .ok (.iadd, 1)) (k : sj_G X S cl sl L q (.int (x + y) :: rest)) : sj_G X S cl sl L pc (.int y :: .int x :: rest) := by
  obtain ⟨p, l, e, R, s, m, args, below, meth, c, D, cy, A, nL, Q⟩ := X
  obtain ⟨ym, cc, nL0, ret, fr, lo, mc, ms⟩ := M
  obtain ⟨hx, hb, ⟨hml, hnL⟩, hown, hts, ⟨hlk, hret, hnm⟩, hK, hAm, hA, hRR⟩ := C
  subst hq
  intro H locs ls h1 h2 h3
  exact lv_iadd hx hb hd (k H locs ls h1 h2 h3)
theorem sj_isub {X : sj_X} {M : sj_M} (C : sj_C X M) {S : sj_St} {cl sl : Nat} {L : List (Option Value)} {pc : Nat} {rest : List Value} {x y : Int32} (q : Nat) (hq : pc + 1 = q) (hd : decode M.2.1 pc = .ok (.isub, 1)) (k : sj_G X S cl sl L q (.int (x - y) :: rest)) : sj_G X S cl sl L pc (.int y :: .int x :: rest) := by
  obtain ⟨p, l, e, R, s, m, args, below, meth, c, D, cy, A, nL, Q⟩ := X
  obtain ⟨ym, cc, nL0, ret, fr, lo, mc, ms⟩ := M
  obtain ⟨hx, hb, ⟨hml, hnL⟩, hown, hts, ⟨hlk, hret, hnm⟩, hK, hAm, hA, hRR⟩ := C
  subst hq
  intro H locs ls h1 h2 h3
  exact lv_isub hx hb hd (k H locs ls h1 h2 h3)
theorem sj_imul {X : sj_X} {M : sj_M} (C : sj_C X M) {S : sj_St} {cl sl : Nat} {L : List (Option Value)} {pc : Nat} {rest : List Value} {x y : Int32} (q : Nat) (hq : pc + 1 = q) (hd : decode M.2.1 pc = .ok (.imul, 1)) (k : sj_G X S cl sl L q (.int (x * y) :: rest)) : sj_G X S cl sl L pc (.int y :: .int x :: rest) := by
  obtain ⟨p, l, e, R, s, m, args, below, meth, c, D, cy, A, nL, Q⟩ := X
  obtain ⟨ym, cc, nL0, ret, fr, lo, mc, ms⟩ := M
  obtain ⟨hx, hb, ⟨hml, hnL⟩, hown, hts, ⟨hlk, hret, hnm⟩, hK, hAm, hA, hRR⟩ := C
  subst hq
  intro H locs ls h1 h2 h3
  exact lv_imul hx hb hd (k H locs ls h1 h2 h3)
theorem sj_iand {X : sj_X} {M : sj_M} (C : sj_C X M) {S : sj_St} {cl sl : Nat} {L : List (Option Value)} {pc : Nat} {rest : List Value} {x y : Int32} (q : Nat) (hq : pc + 1 = q) (hd : decode M.2.1 pc = .ok (.iand, 1)) (k : sj_G X S cl sl L q (.int (x &&& y) :: rest)) : sj_G X S cl sl L pc (.int y :: .int x :: rest) := by
  obtain ⟨p, l, e, R, s, m, args, below, meth, c, D, cy, A, nL, Q⟩ := X
  obtain ⟨ym, cc, nL0, ret, fr, lo, mc, ms⟩ := M
  obtain ⟨hx, hb, ⟨hml, hnL⟩, hown, hts, ⟨hlk, hret, hnm⟩, hK, hAm, hA, hRR⟩ := C
  subst hq
  intro H locs ls h1 h2 h3
  exact lv_iand hx hb hd (k H locs ls h1 h2 h3)
theorem sj_ior {X : sj_X} {M : sj_M} (C : sj_C X M) {S : sj_St} {cl sl : Nat} {L : List (Option Value)} {pc : Nat} {rest : List Value} {x y : Int32} (q : Nat) (hq : pc + 1 = q) (hd : decode M.2.1 pc = .ok (.ior, 1)) (k : sj_G X S cl sl L q (.int (x ||| y) :: rest)) : sj_G X S cl sl L pc (.int y :: .int x :: rest) := by
  obtain ⟨p, l, e, R, s, m, args, below, meth, c, D, cy, A, nL, Q⟩ := X
  obtain ⟨ym, cc, nL0, ret, fr, lo, mc, ms⟩ := M
  obtain ⟨hx, hb, ⟨hml, hnL⟩, hown, hts, ⟨hlk, hret, hnm⟩, hK, hAm, hA, hRR⟩ := C
  subst hq
  intro H locs ls h1 h2 h3
  exact lv_ior hx hb hd (k H locs ls h1 h2 h3)
theorem sj_ixor {X : sj_X} {M : sj_M} (C : sj_C X M) {S : sj_St} {cl sl : Nat} {L : List (Option Value)} {pc : Nat} {rest : List Value} {x y : Int32} (q : Nat) (hq : pc + 1 = q) (hd : decode M.2.1 pc = .ok (.ixor, 1)) (k : sj_G X S cl sl L q (.int (x ^^^ y) :: rest)) : sj_G X S cl sl L pc (.int y :: .int x :: rest) := by
  obtain ⟨p, l, e, R, s, m, args, below, meth, c, D, cy, A, nL, Q⟩ := X
  obtain ⟨ym, cc, nL0, ret, fr, lo, mc, ms⟩ := M
  obtain ⟨hx, hb, ⟨hml, hnL⟩, hown, hts, ⟨hlk, hret, hnm⟩, hK, hAm, hA, hRR⟩ := C
  subst hq
  intro H locs ls h1 h2 h3
  exact lv_ixor hx hb hd (k H locs ls h1 h2 h3)
theorem sj_ishl {X : sj_X} {M : sj_M} (C : sj_C X M) {S : sj_St} {cl sl : Nat} {L : List (Option Value)} {pc : Nat} {rest : List Value} {x y : Int32} (q : Nat) (hq : pc + 1 = q) (hd : decode M.2.1 pc = .ok (.ishl, 1)) (k : sj_G X S cl sl L q (.int (x <<< (y &&& 31)) :: rest)) : sj_G X S cl sl L pc (.int y :: .int x :: rest) := by
  obtain ⟨p, l, e, R, s, m, args, below, meth, c, D, cy, A, nL, Q⟩ := X
  obtain ⟨ym, cc, nL0, ret, fr, lo, mc, ms⟩ := M
  obtain ⟨hx, hb, ⟨hml, hnL⟩, hown, hts, ⟨hlk, hret, hnm⟩, hK, hAm, hA, hRR⟩ := C
  subst hq
  intro H locs ls h1 h2 h3
  exact lv_ishl hx hb hd (k H locs ls h1 h2 h3)
theorem sj_ishr {X : sj_X} {M : sj_M} (C : sj_C X M) {S : sj_St} {cl sl : Nat} {L : List (Option Value)} {pc : Nat} {rest : List Value} {x y : Int32} (q : Nat) (hq : pc + 1 = q) (hd : decode M.2.1 pc = .ok (.ishr, 1)) (k : sj_G X S cl sl L q (.int (x >>> (y &&& 31)) :: rest)) : sj_G X S cl sl L pc (.int y :: .int x :: rest) := by
  obtain ⟨p, l, e, R, s, m, args, below, meth, c, D, cy, A, nL, Q⟩ := X
  obtain ⟨ym, cc, nL0, ret, fr, lo, mc, ms⟩ := M
  obtain ⟨hx, hb, ⟨hml, hnL⟩, hown, hts, ⟨hlk, hret, hnm⟩, hK, hAm, hA, hRR⟩ := C
  subst hq
  intro H locs ls h1 h2 h3
  exact lv_ishr hx hb hd (k H locs ls h1 h2 h3)
theorem sj_idiv {X : sj_X} {M : sj_M} (C : sj_C X M) {S : sj_St} {cl sl : Nat} {L : List (Option Value)} {pc : Nat} {rest : List Value} {x y : Int32} (q : Nat) (hq : pc + 1 = q) (hd : decode M.2.1 pc = .ok (.idiv, 1)) (hne : ¬ y = 0) (k : sj_G X S cl sl L q (.int (x / y) :: rest)) : sj_G X S cl sl L pc (.int y :: .int x :: rest) := by
  obtain ⟨p, l, e, R, s, m, args, below, meth, c, D, cy, A, nL, Q⟩ := X
  obtain ⟨ym, cc, nL0, ret, fr, lo, mc, ms⟩ := M
  obtain ⟨hx, hb, ⟨hml, hnL⟩, hown, hts, ⟨hlk, hret, hnm⟩, hK, hAm, hA, hRR⟩ := C
  subst hq
  intro H locs ls h1 h2 h3
  exact lv_idiv hx hb hd hne (k H locs ls h1 h2 h3)
theorem sj_irem {X : sj_X} {M : sj_M} (C : sj_C X M) {S : sj_St} {cl sl : Nat} {L : List (Option Value)} {pc : Nat} {rest : List Value} {x y : Int32} (q : Nat) (hq : pc + 1 = q) (hd : decode M.2.1 pc = .ok (.irem, 1)) (hne : ¬ y = 0) (k : sj_G X S cl sl L q (.int (x - x / y * y) :: rest)) : sj_G X S cl sl L pc (.int y :: .int x :: rest) := by
  obtain ⟨p, l, e, R, s, m, args, below, meth, c, D, cy, A, nL, Q⟩ := X
  obtain ⟨ym, cc, nL0, ret, fr, lo, mc, ms⟩ := M
  obtain ⟨hx, hb, ⟨hml, hnL⟩, hown, hts, ⟨hlk, hret, hnm⟩, hK, hAm, hA, hRR⟩ := C
  subst hq
  intro H locs ls h1 h2 h3
  exact lv_irem hx hb hd hne (k H locs ls h1 h2 h3)
theorem sj_ineg {X : sj_X} {M : sj_M} (C : sj_C X M) {S : sj_St} {cl sl : Nat} {L : List (Option Value)} {pc : Nat} {rest : List Value} {x : Int32} (q : Nat) (hq : pc + 1 = q) (hd : decode M.2.1 pc = .ok (.ineg, 1)) (k : sj_G X S cl sl L q (.int (-x) :: rest)) : sj_G X S cl sl L pc (.int x :: rest) := by
  obtain ⟨p, l, e, R, s, m, args, below, meth, c, D, cy, A, nL, Q⟩ := X
  obtain ⟨ym, cc, nL0, ret, fr, lo, mc, ms⟩ := M
  obtain ⟨hx, hb, ⟨hml, hnL⟩, hown, hts, ⟨hlk, hret, hnm⟩, hK, hAm, hA, hRR⟩ := C
  subst hq
  intro H locs ls h1 h2 h3
  exact lv_ineg hx hb hd (k H locs ls h1 h2 h3)
theorem sj_i2l {X : sj_X} {M : sj_M} (C : sj_C X M) {S : sj_St} {cl sl : Nat} {L : List (Option Value)} {pc : Nat} {rest : List Value} {x : Int32} (q : Nat) (hq : pc + 1 = q) (hd : decode M.2.1 pc = .ok (.i2l, 1)) (k : sj_G X S cl sl L q (.long x.toInt64 :: rest)) : sj_G X S cl sl L pc (.int x :: rest) := by
  obtain ⟨p, l, e, R, s, m, args, below, meth, c, D, cy, A, nL, Q⟩ := X
  obtain ⟨ym, cc, nL0, ret, fr, lo, mc, ms⟩ := M
  obtain ⟨hx, hb, ⟨hml, hnL⟩, hown, hts, ⟨hlk, hret, hnm⟩, hK, hAm, hA, hRR⟩ := C
  subst hq
  intro H locs ls h1 h2 h3
  exact lv_i2l hx hb hd rfl (k H locs ls h1 h2 h3)
theorem sj_ladd {X : sj_X} {M : sj_M} (C : sj_C X M) {S : sj_St} {cl sl : Nat} {L : List (Option Value)} {pc : Nat} {rest : List Value} {x y : Int64} (q : Nat) (hq : pc + 1 = q) (hd : decode M.2.1 pc = .ok (.ladd, 1)) (k : sj_G X S cl sl L q (.long (x + y) :: rest)) : sj_G X S cl sl L pc (.long y :: .long x :: rest) := by
  obtain ⟨p, l, e, R, s, m, args, below, meth, c, D, cy, A, nL, Q⟩ := X
  obtain ⟨ym, cc, nL0, ret, fr, lo, mc, ms⟩ := M
  obtain ⟨hx, hb, ⟨hml, hnL⟩, hown, hts, ⟨hlk, hret, hnm⟩, hK, hAm, hA, hRR⟩ := C
  subst hq
  intro H locs ls h1 h2 h3
  exact lv_ladd hx hb hd (k H locs ls h1 h2 h3)
theorem sj_lsub {X : sj_X} {M : sj_M} (C : sj_C X M) {S : sj_St} {cl sl : Nat} {L : List (Option Value)} {pc : Nat} {rest : List Value} {x y : Int64} (q : Nat) (hq : pc + 1 = q) (hd : decode M.2.1 pc = .ok (.lsub, 1)) (k : sj_G X S cl sl L q (.long (x - y) :: rest)) : sj_G X S cl sl L pc (.long y :: .long x :: rest) := by
  obtain ⟨p, l, e, R, s, m, args, below, meth, c, D, cy, A, nL, Q⟩ := X
  obtain ⟨ym, cc, nL0, ret, fr, lo, mc, ms⟩ := M
  obtain ⟨hx, hb, ⟨hml, hnL⟩, hown, hts, ⟨hlk, hret, hnm⟩, hK, hAm, hA, hRR⟩ := C
  subst hq
  intro H locs ls h1 h2 h3
  exact lv_lsub hx hb hd (k H locs ls h1 h2 h3)
theorem sj_lmul {X : sj_X} {M : sj_M} (C : sj_C X M) {S : sj_St} {cl sl : Nat} {L : List (Option Value)} {pc : Nat} {rest : List Value} {x y : Int64} (q : Nat) (hq : pc + 1 = q) (hd : decode M.2.1 pc = .ok (.lmul, 1)) (k : sj_G X S cl sl L q (.long (x * y) :: rest)) : sj_G X S cl sl L pc (.long y :: .long x :: rest) := by
  obtain ⟨p, l, e, R, s, m, args, below, meth, c, D, cy, A, nL, Q⟩ := X
  obtain ⟨ym, cc, nL0, ret, fr, lo, mc, ms⟩ := M
  obtain ⟨hx, hb, ⟨hml, hnL⟩, hown, hts, ⟨hlk, hret, hnm⟩, hK, hAm, hA, hRR⟩ := C
  subst hq
  intro H locs ls h1 h2 h3
  exact lv_lmul hx hb hd (k H locs ls h1 h2 h3)
theorem sj_lshl {X : sj_X} {M : sj_M} (C : sj_C X M) {S : sj_St} {cl sl : Nat} {L : List (Option Value)} {pc : Nat} {rest : List Value} {x : Int64} {y : Int32} (q : Nat) (hq : pc + 1 = q) (hd : decode M.2.1 pc = .ok (.lshl, 1)) (k : sj_G X S cl sl L q (.long (x <<< (y.toInt64 &&& 63)) :: rest)) : sj_G X S cl sl L pc (.int y :: .long x :: rest) := by
  obtain ⟨p, l, e, R, s, m, args, below, meth, c, D, cy, A, nL, Q⟩ := X
  obtain ⟨ym, cc, nL0, ret, fr, lo, mc, ms⟩ := M
  obtain ⟨hx, hb, ⟨hml, hnL⟩, hown, hts, ⟨hlk, hret, hnm⟩, hK, hAm, hA, hRR⟩ := C
  subst hq
  intro H locs ls h1 h2 h3
  exact lv_lshl hx hb hd rfl (k H locs ls h1 h2 h3)
theorem sj_lcmp {X : sj_X} {M : sj_M} (C : sj_C X M) {S : sj_St} {cl sl : Nat} {L : List (Option Value)} {pc : Nat} {rest : List Value} {x y : Int64} (q : Nat) (hq : pc + 1 = q) (hd : decode M.2.1 pc = .ok (.lcmp, 1)) (k : sj_G X S cl sl L q (.int (lg_cmp x y) :: rest)) : sj_G X S cl sl L pc (.long y :: .long x :: rest) := by
  obtain ⟨p, l, e, R, s, m, args, below, meth, c, D, cy, A, nL, Q⟩ := X
  obtain ⟨ym, cc, nL0, ret, fr, lo, mc, ms⟩ := M
  obtain ⟨hx, hb, ⟨hml, hnL⟩, hown, hts, ⟨hlk, hret, hnm⟩, hK, hAm, hA, hRR⟩ := C
  subst hq
  intro H locs ls h1 h2 h3
  exact W.lcmp hx hb hd (k H locs ls h1 h2 h3)
theorem sj_i2d {X : sj_X} {M : sj_M} (C : sj_C X M) {S : sj_St} {cl sl : Nat} {L : List (Option Value)} {pc : Nat} {rest : List Value} {x : Int32} (q : Nat) (hq : pc + 1 = q) (hd : decode M.2.1 pc = .ok (.i2d, 1)) (k : sj_G X S cl sl L q (.double (FP.i2d x) :: rest)) : sj_G X S cl sl L pc (.int x :: rest) := by
  obtain ⟨p, l, e, R, s, m, args, below, meth, c, D, cy, A, nL, Q⟩ := X
  obtain ⟨ym, cc, nL0, ret, fr, lo, mc, ms⟩ := M
  obtain ⟨hx, hb, ⟨hml, hnL⟩, hown, hts, ⟨hlk, hret, hnm⟩, hK, hAm, hA, hRR⟩ := C
  subst hq
  intro H locs ls h1 h2 h3
  exact lv_i2d hx hb hd (k H locs ls h1 h2 h3)
theorem sj_d2l {X : sj_X} {M : sj_M} (C : sj_C X M) {S : sj_St} {cl sl : Nat} {L : List (Option Value)} {pc : Nat} {rest : List Value} {x : UInt64} (q : Nat) (hq : pc + 1 = q) (hd : decode M.2.1 pc = .ok (.d2l, 1)) (k : sj_G X S cl sl L q (.long (FP.d2l x) :: rest)) : sj_G X S cl sl L pc (.double x :: rest) := by
  obtain ⟨p, l, e, R, s, m, args, below, meth, c, D, cy, A, nL, Q⟩ := X
  obtain ⟨ym, cc, nL0, ret, fr, lo, mc, ms⟩ := M
  obtain ⟨hx, hb, ⟨hml, hnL⟩, hown, hts, ⟨hlk, hret, hnm⟩, hK, hAm, hA, hRR⟩ := C
  subst hq
  intro H locs ls h1 h2 h3
  exact lv_d2l hx hb hd (k H locs ls h1 h2 h3)
theorem sj_dmul {X : sj_X} {M : sj_M} (C : sj_C X M) {S : sj_St} {cl sl : Nat} {L : List (Option Value)} {pc : Nat} {rest : List Value} {x y : UInt64} (q : Nat) (hq : pc + 1 = q) (hd : decode M.2.1 pc = .ok (.dmul, 1)) (hne : vf_n64 (FP.dmul x y)) (k : sj_G X S cl sl L q (.double (FP.dmul x y) :: rest)) : sj_G X S cl sl L pc (.double y :: .double x :: rest) := by
  obtain ⟨p, l, e, R, s, m, args, below, meth, c, D, cy, A, nL, Q⟩ := X
  obtain ⟨ym, cc, nL0, ret, fr, lo, mc, ms⟩ := M
  obtain ⟨hx, hb, ⟨hml, hnL⟩, hown, hts, ⟨hlk, hret, hnm⟩, hK, hAm, hA, hRR⟩ := C
  subst hq
  intro H locs ls h1 h2 h3
  exact lv_dmul hx hb hd hne (k H locs ls h1 h2 h3)
theorem sj_dsub {X : sj_X} {M : sj_M} (C : sj_C X M) {S : sj_St} {cl sl : Nat} {L : List (Option Value)} {pc : Nat} {rest : List Value} {x y : UInt64} (q : Nat) (hq : pc + 1 = q) (hd : decode M.2.1 pc = .ok (.dsub, 1)) (hne : vf_n64 (FP.dsub x y)) (k : sj_G X S cl sl L q (.double (FP.dsub x y) :: rest)) : sj_G X S cl sl L pc (.double y :: .double x :: rest) := by
  obtain ⟨p, l, e, R, s, m, args, below, meth, c, D, cy, A, nL, Q⟩ := X
  obtain ⟨ym, cc, nL0, ret, fr, lo, mc, ms⟩ := M
  obtain ⟨hx, hb, ⟨hml, hnL⟩, hown, hts, ⟨hlk, hret, hnm⟩, hK, hAm, hA, hRR⟩ := C
  subst hq
  intro H locs ls h1 h2 h3
  exact lv_dsub hx hb hd hne (k H locs ls h1 h2 h3)
theorem sj_ddiv {X : sj_X} {M : sj_M} (C : sj_C X M) {S : sj_St} {cl sl : Nat} {L : List (Option Value)} {pc : Nat} {rest : List Value} {x y : UInt64} (q : Nat) (hq : pc + 1 = q) (hd : decode M.2.1 pc = .ok (.ddiv, 1)) (hne : vf_n64 (FP.ddiv x y)) (k : sj_G X S cl sl L q (.double (FP.ddiv x y) :: rest)) : sj_G X S cl sl L pc (.double y :: .double x :: rest) := by
  obtain ⟨p, l, e, R, s, m, args, below, meth, c, D, cy, A, nL, Q⟩ := X
  obtain ⟨ym, cc, nL0, ret, fr, lo, mc, ms⟩ := M
  obtain ⟨hx, hb, ⟨hml, hnL⟩, hown, hts, ⟨hlk, hret, hnm⟩, hK, hAm, hA, hRR⟩ := C
  subst hq
  intro H locs ls h1 h2 h3
  exact lv_ddiv hx hb hd hne (k H locs ls h1 h2 h3)
theorem sj_dcmp {X : sj_X} {M : sj_M} (C : sj_C X M) {S : sj_St} {cl sl : Nat} {L : List (Option Value)} {pc : Nat} {rest : List Value} {x y : UInt64} {op : CmpOp} (q : Nat) (hq : pc + 1 = q) (hd : decode M.2.1 pc = .ok (.dcmp op, 1)) (k : sj_G X S cl sl L q (.int (Op.cmpValue (FP.dcmp x y) op) :: rest)) : sj_G X S cl sl L pc (.double y :: .double x :: rest) := by
  obtain ⟨p, l, e, R, s, m, args, below, meth, c, D, cy, A, nL, Q⟩ := X
  obtain ⟨ym, cc, nL0, ret, fr, lo, mc, ms⟩ := M
  obtain ⟨hx, hb, ⟨hml, hnL⟩, hown, hts, ⟨hlk, hret, hnm⟩, hK, hAm, hA, hRR⟩ := C
  subst hq
  intro H locs ls h1 h2 h3
  exact lv_dcmp hx hb hd (k H locs ls h1 h2 h3)
theorem sj_dconst0 {X : sj_X} {M : sj_M} (C : sj_C X M) {S : sj_St} {cl sl : Nat} {L : List (Option Value)} {pc : Nat} {rest : List Value}  (q : Nat) (hq : pc + 1 = q) (hd : decode M.2.1 pc = .ok (.dconst 0, 1)) (k : sj_G X S cl sl L q (.double FP.dconst0 :: rest)) : sj_G X S cl sl L pc (rest) := by
  obtain ⟨p, l, e, R, s, m, args, below, meth, c, D, cy, A, nL, Q⟩ := X
  obtain ⟨ym, cc, nL0, ret, fr, lo, mc, ms⟩ := M
  obtain ⟨hx, hb, ⟨hml, hnL⟩, hown, hts, ⟨hlk, hret, hnm⟩, hK, hAm, hA, hRR⟩ := C
  subst hq
  intro H locs ls h1 h2 h3
  exact lv_dconst0 hx hb hd (k H locs ls h1 h2 h3)
theorem sj_dconst1 {X : sj_X} {M : sj_M} (C : sj_C X M) {S : sj_St} {cl sl : Nat} {L : List (Option Value)} {pc : Nat} {rest : List Value}  (q : Nat) (hq : pc + 1 = q) (hd : decode M.2.1 pc = .ok (.dconst 1, 1)) (k : sj_G X S cl sl L q (.double FP.dconst1 :: rest)) : sj_G X S cl sl L pc (rest) := by
  obtain ⟨p, l, e, R, s, m, args, below, meth, c, D, cy, A, nL, Q⟩ := X
  obtain ⟨ym, cc, nL0, ret, fr, lo, mc, ms⟩ := M
  obtain ⟨hx, hb, ⟨hml, hnL⟩, hown, hts, ⟨hlk, hret, hnm⟩, hK, hAm, hA, hRR⟩ := C
  subst hq
  intro H locs ls h1 h2 h3
  exact lv_dconst1 hx hb hd (k H locs ls h1 h2 h3)
theorem sj_dup {X : sj_X} {M : sj_M} (C : sj_C X M) {S : sj_St} {cl sl : Nat} {L : List (Option Value)} {pc : Nat} {rest : List Value} {va : Value} (q : Nat) (hq : pc + 1 = q) (hd : decode M.2.1 pc = .ok (.dup, 1)) (hva : va.category = 1) (k : sj_G X S cl sl L q (va :: va :: rest)) : sj_G X S cl sl L pc (va :: rest) := by
  obtain ⟨p, l, e, R, s, m, args, below, meth, c, D, cy, A, nL, Q⟩ := X
  obtain ⟨ym, cc, nL0, ret, fr, lo, mc, ms⟩ := M
  obtain ⟨hx, hb, ⟨hml, hnL⟩, hown, hts, ⟨hlk, hret, hnm⟩, hK, hAm, hA, hRR⟩ := C
  subst hq
  intro H locs ls h1 h2 h3
  exact lv_dup hx hb hd hva (k H locs ls h1 h2 h3)
theorem sj_pop {X : sj_X} {M : sj_M} (C : sj_C X M) {S : sj_St} {cl sl : Nat} {L : List (Option Value)} {pc : Nat} {rest : List Value} {va : Value} (q : Nat) (hq : pc + 1 = q) (hd : decode M.2.1 pc = .ok (.pop, 1)) (hva : va.category = 1) (k : sj_G X S cl sl L q (rest)) : sj_G X S cl sl L pc (va :: rest) := by
  obtain ⟨p, l, e, R, s, m, args, below, meth, c, D, cy, A, nL, Q⟩ := X
  obtain ⟨ym, cc, nL0, ret, fr, lo, mc, ms⟩ := M
  obtain ⟨hx, hb, ⟨hml, hnL⟩, hown, hts, ⟨hlk, hret, hnm⟩, hK, hAm, hA, hRR⟩ := C
  subst hq
  intro H locs ls h1 h2 h3
  exact lv_pop hx hb hd hva (k H locs ls h1 h2 h3)
theorem sj_dup2 {X : sj_X} {M : sj_M} (C : sj_C X M) {S : sj_St} {cl sl : Nat} {L : List (Option Value)} {pc : Nat} {rest : List Value} {va vb : Value} (q : Nat) (hq : pc + 1 = q) (hd : decode M.2.1 pc = .ok (.dup2, 1)) (hva : va.category = 1) (hvb : vb.category = 1) (k : sj_G X S cl sl L q (va :: vb :: va :: vb :: rest)) : sj_G X S cl sl L pc (va :: vb :: rest) := by
  obtain ⟨p, l, e, R, s, m, args, below, meth, c, D, cy, A, nL, Q⟩ := X
  obtain ⟨ym, cc, nL0, ret, fr, lo, mc, ms⟩ := M
  obtain ⟨hx, hb, ⟨hml, hnL⟩, hown, hts, ⟨hlk, hret, hnm⟩, hK, hAm, hA, hRR⟩ := C
  subst hq
  intro H locs ls h1 h2 h3
  exact lv_dup2_11 hx hb hd hva hvb (k H locs ls h1 h2 h3)
theorem sj_iload_n {X : sj_X} {M : sj_M} (C : sj_C X M) {S : sj_St} {cl sl : Nat} {L : List (Option Value)} {pc : Nat} {rest : List Value} {k : Fin 4} {i : Nat} {x : Int32} (q : Nat) (hq : pc + 1 = q) (hd : decode M.2.1 pc = .ok (.iload_n k, 1)) (hi : (k : Nat) = i) (hl : L[i]? = some (some (.int x))) (kk : sj_G X S cl sl L q (.int x :: rest)) : sj_G X S cl sl L pc rest := by
  obtain ⟨p, l, e, R, s, m, args, below, meth, c, D, cy, A, nL, Q⟩ := X
  obtain ⟨ym, cc, nL0, ret, fr, lo, mc, ms⟩ := M
  obtain ⟨hx, hb, ⟨hml, hnL⟩, hown, hts, ⟨hlk, hret, hnm⟩, hK, hAm, hA, hRR⟩ := C
  subst hq
  intro H locs ls h1 h2 h3
  have h4 : ls[i]? = some (.val (.int x)) := by
    have h5 := h3.2.2 _ (sj_lv_mem L 0 i _ hl)
    simpa using h5
  exact lv_iload_n hx hb hd hi h4 (kk H locs ls h1 h2 h3)
theorem sj_iload {X : sj_X} {M : sj_M} (C : sj_C X M) {S : sj_St} {cl sl : Nat} {L : List (Option Value)} {pc : Nat} {rest : List Value} {i : Nat} {x : Int32} (q : Nat) (hq : pc + 2 = q) (hd : decode M.2.1 pc = .ok (.iload i, 2)) (hl : L[i]? = some (some (.int x))) (kk : sj_G X S cl sl L q (.int x :: rest)) : sj_G X S cl sl L pc rest := by
  obtain ⟨p, l, e, R, s, m, args, below, meth, c, D, cy, A, nL, Q⟩ := X
  obtain ⟨ym, cc, nL0, ret, fr, lo, mc, ms⟩ := M
  obtain ⟨hx, hb, ⟨hml, hnL⟩, hown, hts, ⟨hlk, hret, hnm⟩, hK, hAm, hA, hRR⟩ := C
  subst hq
  intro H locs ls h1 h2 h3
  have h4 : ls[i]? = some (.val (.int x)) := by
    have h5 := h3.2.2 _ (sj_lv_mem L 0 i _ hl)
    simpa using h5
  exact lv_iload hx hb hd h4 (kk H locs ls h1 h2 h3)
theorem sj_aload_n {X : sj_X} {M : sj_M} (C : sj_C X M) {S : sj_St} {cl sl : Nat} {L : List (Option Value)} {pc : Nat} {rest : List Value} {k : Fin 4} {i : Nat} {x : Nat} (q : Nat) (hq : pc + 1 = q) (hd : decode M.2.1 pc = .ok (.aload_n k, 1)) (hi : (k : Nat) = i) (hl : L[i]? = some (some (.ref x))) (kk : sj_G X S cl sl L q (.ref x :: rest)) : sj_G X S cl sl L pc rest := by
  obtain ⟨p, l, e, R, s, m, args, below, meth, c, D, cy, A, nL, Q⟩ := X
  obtain ⟨ym, cc, nL0, ret, fr, lo, mc, ms⟩ := M
  obtain ⟨hx, hb, ⟨hml, hnL⟩, hown, hts, ⟨hlk, hret, hnm⟩, hK, hAm, hA, hRR⟩ := C
  subst hq
  intro H locs ls h1 h2 h3
  have h4 : ls[i]? = some (.val (.ref x)) := by
    have h5 := h3.2.2 _ (sj_lv_mem L 0 i _ hl)
    simpa using h5
  exact lv_aload_n hx hb hd hi h4 (kk H locs ls h1 h2 h3)
theorem sj_aload {X : sj_X} {M : sj_M} (C : sj_C X M) {S : sj_St} {cl sl : Nat} {L : List (Option Value)} {pc : Nat} {rest : List Value} {i : Nat} {x : Nat} (q : Nat) (hq : pc + 2 = q) (hd : decode M.2.1 pc = .ok (.aload i, 2)) (hl : L[i]? = some (some (.ref x))) (kk : sj_G X S cl sl L q (.ref x :: rest)) : sj_G X S cl sl L pc rest := by
  obtain ⟨p, l, e, R, s, m, args, below, meth, c, D, cy, A, nL, Q⟩ := X
  obtain ⟨ym, cc, nL0, ret, fr, lo, mc, ms⟩ := M
  obtain ⟨hx, hb, ⟨hml, hnL⟩, hown, hts, ⟨hlk, hret, hnm⟩, hK, hAm, hA, hRR⟩ := C
  subst hq
  intro H locs ls h1 h2 h3
  have h4 : ls[i]? = some (.val (.ref x)) := by
    have h5 := h3.2.2 _ (sj_lv_mem L 0 i _ hl)
    simpa using h5
  exact lv_aload hx hb hd h4 (kk H locs ls h1 h2 h3)
theorem sj_lload_n {X : sj_X} {M : sj_M} (C : sj_C X M) {S : sj_St} {cl sl : Nat} {L : List (Option Value)} {pc : Nat} {rest : List Value} {k : Fin 4} {i : Nat} {x : Int64} (q : Nat) (hq : pc + 1 = q) (hd : decode M.2.1 pc = .ok (.lload_n k, 1)) (hi : (k : Nat) = i) (hl : L[i]? = some (some (.long x))) (kk : sj_G X S cl sl L q (.long x :: rest)) : sj_G X S cl sl L pc rest := by
  obtain ⟨p, l, e, R, s, m, args, below, meth, c, D, cy, A, nL, Q⟩ := X
  obtain ⟨ym, cc, nL0, ret, fr, lo, mc, ms⟩ := M
  obtain ⟨hx, hb, ⟨hml, hnL⟩, hown, hts, ⟨hlk, hret, hnm⟩, hK, hAm, hA, hRR⟩ := C
  subst hq
  intro H locs ls h1 h2 h3
  have h4 : ls[i]? = some (.val (.long x)) := by
    have h5 := h3.2.2 _ (sj_lv_mem L 0 i _ hl)
    simpa using h5
  exact lv_lload_n hx hb hd hi h4 (kk H locs ls h1 h2 h3)
theorem sj_lload {X : sj_X} {M : sj_M} (C : sj_C X M) {S : sj_St} {cl sl : Nat} {L : List (Option Value)} {pc : Nat} {rest : List Value} {i : Nat} {x : Int64} (q : Nat) (hq : pc + 2 = q) (hd : decode M.2.1 pc = .ok (.lload i, 2)) (hl : L[i]? = some (some (.long x))) (kk : sj_G X S cl sl L q (.long x :: rest)) : sj_G X S cl sl L pc rest := by
  obtain ⟨p, l, e, R, s, m, args, below, meth, c, D, cy, A, nL, Q⟩ := X
  obtain ⟨ym, cc, nL0, ret, fr, lo, mc, ms⟩ := M
  obtain ⟨hx, hb, ⟨hml, hnL⟩, hown, hts, ⟨hlk, hret, hnm⟩, hK, hAm, hA, hRR⟩ := C
  subst hq
  intro H locs ls h1 h2 h3
  have h4 : ls[i]? = some (.val (.long x)) := by
    have h5 := h3.2.2 _ (sj_lv_mem L 0 i _ hl)
    simpa using h5
  exact lv_lload hx hb hd h4 (kk H locs ls h1 h2 h3)
theorem sj_dload_n {X : sj_X} {M : sj_M} (C : sj_C X M) {S : sj_St} {cl sl : Nat} {L : List (Option Value)} {pc : Nat} {rest : List Value} {k : Fin 4} {i : Nat} {x : UInt64} (q : Nat) (hq : pc + 1 = q) (hd : decode M.2.1 pc = .ok (.dload_n k, 1)) (hi : (k : Nat) = i) (hl : L[i]? = some (some (.double x))) (kk : sj_G X S cl sl L q (.double x :: rest)) : sj_G X S cl sl L pc rest := by
  obtain ⟨p, l, e, R, s, m, args, below, meth, c, D, cy, A, nL, Q⟩ := X
  obtain ⟨ym, cc, nL0, ret, fr, lo, mc, ms⟩ := M
  obtain ⟨hx, hb, ⟨hml, hnL⟩, hown, hts, ⟨hlk, hret, hnm⟩, hK, hAm, hA, hRR⟩ := C
  subst hq
  intro H locs ls h1 h2 h3
  have h4 : ls[i]? = some (.val (.double x)) := by
    have h5 := h3.2.2 _ (sj_lv_mem L 0 i _ hl)
    simpa using h5
  exact lv_dload_n hx hb hd hi h4 (kk H locs ls h1 h2 h3)
theorem sj_dload {X : sj_X} {M : sj_M} (C : sj_C X M) {S : sj_St} {cl sl : Nat} {L : List (Option Value)} {pc : Nat} {rest : List Value} {i : Nat} {x : UInt64} (q : Nat) (hq : pc + 2 = q) (hd : decode M.2.1 pc = .ok (.dload i, 2)) (hl : L[i]? = some (some (.double x))) (kk : sj_G X S cl sl L q (.double x :: rest)) : sj_G X S cl sl L pc rest := by
  obtain ⟨p, l, e, R, s, m, args, below, meth, c, D, cy, A, nL, Q⟩ := X
  obtain ⟨ym, cc, nL0, ret, fr, lo, mc, ms⟩ := M
  obtain ⟨hx, hb, ⟨hml, hnL⟩, hown, hts, ⟨hlk, hret, hnm⟩, hK, hAm, hA, hRR⟩ := C
  subst hq
  intro H locs ls h1 h2 h3
  have h4 : ls[i]? = some (.val (.double x)) := by
    have h5 := h3.2.2 _ (sj_lv_mem L 0 i _ hl)
    simpa using h5
  exact lv_dload hx hb hd h4 (kk H locs ls h1 h2 h3)
theorem sj_ok_use {L : List (Option Value)} {i j : Nat} {w : Value} (h : sj_okb L i = true) (hj : L[j]? = some (some w)) (hji : j + 1 = i) : (w.category == 2) = false := by
  subst hji
  simp only [sj_okb, hj] at h
  simpa using h
theorem sj_keep {L : List (Option Value)} {i : Nat} {v : Value} (hok : sj_okb L i = true) : ∀ z ∈ sj_lv 0 (L.set i (some v)), z ∈ (i, v) :: (sj_lv 0 L).filter (fun q => !(q.1 == i) && !(q.1 + 1 == i && q.2.category == 2)) := by
  intro z hz
  obtain ⟨k, h1, h2⟩ := sj_lv_inv _ _ _ hz
  have h0 : z.1 = k := by omega
  by_cases hk : k = i
  · subst hk
    have hlt : k < L.length := by
      rcases Nat.lt_or_ge k L.length with h | h
      · exact h
      · rw [List.set_eq_of_length_le h, List.getElem?_eq_none h] at h2
        cases h2
    rw [List.getElem?_set_self hlt] at h2
    have h3 : v = z.2 := by simpa using h2
    refine List.mem_cons.mpr (Or.inl ?_)
    rw [h3, ← h0]
  · rw [List.getElem?_set_ne (fun h => hk h.symm)] at h2
    refine List.mem_cons_of_mem _ (List.mem_filter.mpr ⟨?_, ?_⟩)
    · have h5 := sj_lv_mem L 0 k _ h2
      rw [Nat.zero_add, ← h0] at h5
      exact h5
    · have h6 : (z.1 == i) = false := by simpa [h0] using hk
      by_cases h7 : k + 1 = i
      · have h8 := sj_ok_use hok h2 h7
        simp [h6, h8]
      · have h9 : (z.1 + 1 == i) = false := by simpa [h0] using h7
        simp [h6, h9]
theorem sj_keep2 {L : List (Option Value)} {i : Nat} {v : Value} (hok : sj_okb L i = true) : ∀ z ∈ sj_lv 0 ((L.set i (some v)).set (i + 1) none), z ∈ (i, v) :: (sj_lv 0 L).filter (fun q => !(q.1 == i) && (!(q.1 == i + 1) && !(q.1 + 1 == i && q.2.category == 2))) := by
  intro z hz
  obtain ⟨k, h1, h2⟩ := sj_lv_inv _ _ _ hz
  have h0 : z.1 = k := by omega
  by_cases hk1 : k = i + 1
  · subst hk1
    rcases Nat.lt_or_ge (i + 1) (L.set i (some v)).length with h | h
    · rw [List.getElem?_set_self h] at h2
      cases h2
    · rw [List.set_eq_of_length_le h, List.getElem?_eq_none h] at h2
      cases h2
  rw [List.getElem?_set_ne (fun h => hk1 h.symm)] at h2
  by_cases hk : k = i
  · subst hk
    have hlt : k < L.length := by
      rcases Nat.lt_or_ge k L.length with h | h
      · exact h
      · rw [List.set_eq_of_length_le h, List.getElem?_eq_none h] at h2
        cases h2
    rw [List.getElem?_set_self hlt] at h2
    have h3 : v = z.2 := by simpa using h2
    refine List.mem_cons.mpr (Or.inl ?_)
    rw [h3, ← h0]
  · rw [List.getElem?_set_ne (fun h => hk h.symm)] at h2
    refine List.mem_cons_of_mem _ (List.mem_filter.mpr ⟨?_, ?_⟩)
    · have h5 := sj_lv_mem L 0 k _ h2
      rw [Nat.zero_add, ← h0] at h5
      exact h5
    · have h6 : (z.1 == i) = false := by simpa [h0] using hk
      have h6' : (z.1 == i + 1) = false := by simpa [h0] using hk1
      by_cases h7 : k + 1 = i
      · have h8 := sj_ok_use hok h2 h7
        simp [h6, h6', h8]
      · have h9 : (z.1 + 1 == i) = false := by simpa [h0] using h7
        simp [h6, h6', h9]
theorem sj_istore_n0 {X : sj_X} {M : sj_M} (C : sj_C X M) {S : sj_St} {cl sl : Nat} {L : List (Option Value)} {pc : Nat} {rest : List Value} {k : Fin 4} {i : Nat} {x : Int32} (q : Nat) (hq : pc + 1 = q) (hd : decode M.2.1 pc = .ok (.istore_n k, 1)) (hi : (k : Nat) = i) (hn : Nat.ble (i + 1) M.2.2.1 = true) (hok : sj_okb L i = true) (kk : sj_G X S cl sl (L.set i (some (.int x))) q rest) : sj_G X S cl sl L pc (.int x :: rest) := by
  obtain ⟨p, l, e, R, s, m, args, below, meth, c, D, cy, A, nL, Q⟩ := X
  obtain ⟨ym, cc, nL0, ret, fr, lo, mc, ms⟩ := M
  obtain ⟨hx, hb, ⟨hml, hnL⟩, hown, hts, ⟨hlk, hret, hnm⟩, hK, hAm, hA, hRR⟩ := C
  subst hq
  subst hnL
  intro H locs ls h1 h2 h3
  refine lv_istore_n hx hb hd hi h3 (Nat.le_of_ble_eq_true hn) rfl (fun ls' h4 => kk H locs ls' h1 h2 ⟨h4.1, h4.2.1, fun z hz => h4.2.2 z ?_⟩)
  exact sj_keep hok z hz
theorem sj_istore0 {X : sj_X} {M : sj_M} (C : sj_C X M) {S : sj_St} {cl sl : Nat} {L : List (Option Value)} {pc : Nat} {rest : List Value} {i : Nat} {x : Int32} (q : Nat) (hq : pc + 2 = q) (hd : decode M.2.1 pc = .ok (.istore i, 2)) (hn : Nat.ble (i + 1) M.2.2.1 = true) (hok : sj_okb L i = true) (kk : sj_G X S cl sl (L.set i (some (.int x))) q rest) : sj_G X S cl sl L pc (.int x :: rest) := by
  obtain ⟨p, l, e, R, s, m, args, below, meth, c, D, cy, A, nL, Q⟩ := X
  obtain ⟨ym, cc, nL0, ret, fr, lo, mc, ms⟩ := M
  obtain ⟨hx, hb, ⟨hml, hnL⟩, hown, hts, ⟨hlk, hret, hnm⟩, hK, hAm, hA, hRR⟩ := C
  subst hq
  subst hnL
  intro H locs ls h1 h2 h3
  refine lv_istore hx hb hd h3 (Nat.le_of_ble_eq_true hn) rfl (fun ls' h4 => kk H locs ls' h1 h2 ⟨h4.1, h4.2.1, fun z hz => h4.2.2 z ?_⟩)
  exact sj_keep hok z hz
theorem sj_astore_n0 {X : sj_X} {M : sj_M} (C : sj_C X M) {S : sj_St} {cl sl : Nat} {L : List (Option Value)} {pc : Nat} {rest : List Value} {k : Fin 4} {i : Nat} {x : Nat} (q : Nat) (hq : pc + 1 = q) (hd : decode M.2.1 pc = .ok (.astore_n k, 1)) (hi : (k : Nat) = i) (hn : Nat.ble (i + 1) M.2.2.1 = true) (hok : sj_okb L i = true) (kk : sj_G X S cl sl (L.set i (some (.ref x))) q rest) : sj_G X S cl sl L pc (.ref x :: rest) := by
  obtain ⟨p, l, e, R, s, m, args, below, meth, c, D, cy, A, nL, Q⟩ := X
  obtain ⟨ym, cc, nL0, ret, fr, lo, mc, ms⟩ := M
  obtain ⟨hx, hb, ⟨hml, hnL⟩, hown, hts, ⟨hlk, hret, hnm⟩, hK, hAm, hA, hRR⟩ := C
  subst hq
  subst hnL
  intro H locs ls h1 h2 h3
  refine lv_astore_n hx hb hd hi h3 (Nat.le_of_ble_eq_true hn) rfl (fun ls' h4 => kk H locs ls' h1 h2 ⟨h4.1, h4.2.1, fun z hz => h4.2.2 z ?_⟩)
  exact sj_keep hok z hz
theorem sj_astore0 {X : sj_X} {M : sj_M} (C : sj_C X M) {S : sj_St} {cl sl : Nat} {L : List (Option Value)} {pc : Nat} {rest : List Value} {i : Nat} {x : Nat} (q : Nat) (hq : pc + 2 = q) (hd : decode M.2.1 pc = .ok (.astore i, 2)) (hn : Nat.ble (i + 1) M.2.2.1 = true) (hok : sj_okb L i = true) (kk : sj_G X S cl sl (L.set i (some (.ref x))) q rest) : sj_G X S cl sl L pc (.ref x :: rest) := by
  obtain ⟨p, l, e, R, s, m, args, below, meth, c, D, cy, A, nL, Q⟩ := X
  obtain ⟨ym, cc, nL0, ret, fr, lo, mc, ms⟩ := M
  obtain ⟨hx, hb, ⟨hml, hnL⟩, hown, hts, ⟨hlk, hret, hnm⟩, hK, hAm, hA, hRR⟩ := C
  subst hq
  subst hnL
  intro H locs ls h1 h2 h3
  refine lv_astore hx hb hd h3 (Nat.le_of_ble_eq_true hn) rfl (fun ls' h4 => kk H locs ls' h1 h2 ⟨h4.1, h4.2.1, fun z hz => h4.2.2 z ?_⟩)
  exact sj_keep hok z hz
theorem sj_lstore_n0 {X : sj_X} {M : sj_M} (C : sj_C X M) {S : sj_St} {cl sl : Nat} {L : List (Option Value)} {pc : Nat} {rest : List Value} {k : Fin 4} {i : Nat} {x : Int64} (q : Nat) (hq : pc + 1 = q) (hd : decode M.2.1 pc = .ok (.lstore_n k, 1)) (hi : (k : Nat) = i) (hn : Nat.ble (i + 2) M.2.2.1 = true) (hok : sj_okb L i = true) (kk : sj_G X S cl sl ((L.set i (some (.long x))).set (i + 1) none) q rest) : sj_G X S cl sl L pc (.long x :: rest) := by
  obtain ⟨p, l, e, R, s, m, args, below, meth, c, D, cy, A, nL, Q⟩ := X
  obtain ⟨ym, cc, nL0, ret, fr, lo, mc, ms⟩ := M
  obtain ⟨hx, hb, ⟨hml, hnL⟩, hown, hts, ⟨hlk, hret, hnm⟩, hK, hAm, hA, hRR⟩ := C
  subst hq
  subst hnL
  intro H locs ls h1 h2 h3
  refine lv_lstore_n hx hb hd hi h3 (Nat.le_of_ble_eq_true hn) rfl (fun ls' h4 => kk H locs ls' h1 h2 ⟨h4.1, h4.2.1, fun z hz => h4.2.2 z ?_⟩)
  exact sj_keep2 hok z hz
theorem sj_lstore0 {X : sj_X} {M : sj_M} (C : sj_C X M) {S : sj_St} {cl sl : Nat} {L : List (Option Value)} {pc : Nat} {rest : List Value} {i : Nat} {x : Int64} (q : Nat) (hq : pc + 2 = q) (hd : decode M.2.1 pc = .ok (.lstore i, 2)) (hn : Nat.ble (i + 2) M.2.2.1 = true) (hok : sj_okb L i = true) (kk : sj_G X S cl sl ((L.set i (some (.long x))).set (i + 1) none) q rest) : sj_G X S cl sl L pc (.long x :: rest) := by
  obtain ⟨p, l, e, R, s, m, args, below, meth, c, D, cy, A, nL, Q⟩ := X
  obtain ⟨ym, cc, nL0, ret, fr, lo, mc, ms⟩ := M
  obtain ⟨hx, hb, ⟨hml, hnL⟩, hown, hts, ⟨hlk, hret, hnm⟩, hK, hAm, hA, hRR⟩ := C
  subst hq
  subst hnL
  intro H locs ls h1 h2 h3
  refine lv_lstore hx hb hd h3 (Nat.le_of_ble_eq_true hn) rfl (fun ls' h4 => kk H locs ls' h1 h2 ⟨h4.1, h4.2.1, fun z hz => h4.2.2 z ?_⟩)
  exact sj_keep2 hok z hz
theorem sj_dstore_n0 {X : sj_X} {M : sj_M} (C : sj_C X M) {S : sj_St} {cl sl : Nat} {L : List (Option Value)} {pc : Nat} {rest : List Value} {k : Fin 4} {i : Nat} {x : UInt64} (q : Nat) (hq : pc + 1 = q) (hd : decode M.2.1 pc = .ok (.dstore_n k, 1)) (hi : (k : Nat) = i) (hn : Nat.ble (i + 2) M.2.2.1 = true) (hok : sj_okb L i = true) (kk : sj_G X S cl sl ((L.set i (some (.double x))).set (i + 1) none) q rest) : sj_G X S cl sl L pc (.double x :: rest) := by
  obtain ⟨p, l, e, R, s, m, args, below, meth, c, D, cy, A, nL, Q⟩ := X
  obtain ⟨ym, cc, nL0, ret, fr, lo, mc, ms⟩ := M
  obtain ⟨hx, hb, ⟨hml, hnL⟩, hown, hts, ⟨hlk, hret, hnm⟩, hK, hAm, hA, hRR⟩ := C
  subst hq
  subst hnL
  intro H locs ls h1 h2 h3
  refine lv_dstore_n hx hb hd hi h3 (Nat.le_of_ble_eq_true hn) rfl (fun ls' h4 => kk H locs ls' h1 h2 ⟨h4.1, h4.2.1, fun z hz => h4.2.2 z ?_⟩)
  exact sj_keep2 hok z hz
theorem sj_dstore0 {X : sj_X} {M : sj_M} (C : sj_C X M) {S : sj_St} {cl sl : Nat} {L : List (Option Value)} {pc : Nat} {rest : List Value} {i : Nat} {x : UInt64} (q : Nat) (hq : pc + 2 = q) (hd : decode M.2.1 pc = .ok (.dstore i, 2)) (hn : Nat.ble (i + 2) M.2.2.1 = true) (hok : sj_okb L i = true) (kk : sj_G X S cl sl ((L.set i (some (.double x))).set (i + 1) none) q rest) : sj_G X S cl sl L pc (.double x :: rest) := by
  obtain ⟨p, l, e, R, s, m, args, below, meth, c, D, cy, A, nL, Q⟩ := X
  obtain ⟨ym, cc, nL0, ret, fr, lo, mc, ms⟩ := M
  obtain ⟨hx, hb, ⟨hml, hnL⟩, hown, hts, ⟨hlk, hret, hnm⟩, hK, hAm, hA, hRR⟩ := C
  subst hq
  subst hnL
  intro H locs ls h1 h2 h3
  refine lv_dstore hx hb hd h3 (Nat.le_of_ble_eq_true hn) rfl (fun ls' h4 => kk H locs ls' h1 h2 ⟨h4.1, h4.2.1, fun z hz => h4.2.2 z ?_⟩)
  exact sj_keep2 hok z hz
theorem sj_iinc0 {X : sj_X} {M : sj_M} (C : sj_C X M) {S : sj_St} {cl sl : Nat} {L : List (Option Value)} {pc : Nat} {rest : List Value} {i : Nat} {n : Int} {x : Int32} (q : Nat) (hq : pc + 3 = q) (hd : decode M.2.1 pc = .ok (.iinc i n, 3)) (hn : Nat.ble (i + 1) M.2.2.1 = true) (hok : sj_okb L i = true) (hl : L[i]? = some (some (.int x))) (kk : sj_G X S cl sl (L.set i (some (.int (x + Int32.ofInt n)))) q rest) : sj_G X S cl sl L pc rest := by
  obtain ⟨p, l, e, R, s, m, args, below, meth, c, D, cy, A, nL, Q⟩ := X
  obtain ⟨ym, cc, nL0, ret, fr, lo, mc, ms⟩ := M
  obtain ⟨hx, hb, ⟨hml, hnL⟩, hown, hts, ⟨hlk, hret, hnm⟩, hK, hAm, hA, hRR⟩ := C
  subst hq
  subst hnL
  intro H locs ls h1 h2 h3
  have h5 := sj_lv_mem L 0 i _ hl
  rw [Nat.zero_add] at h5
  obtain ⟨k0, hk0⟩ := List.getElem?_of_mem h5
  refine lv_iinc hx hb hd h3 hk0 rfl (Nat.le_of_ble_eq_true hn) rfl (fun ls' h4 => kk H locs ls' h1 h2 ⟨h4.1, h4.2.1, fun z hz => h4.2.2 z ?_⟩)
  exact sj_keep hok z hz
theorem sj_forget {X : sj_X} {S : sj_St} {cl sl : Nat} {L : List (Option Value)} {pc : Nat} {rest : List Value} (L' : List (Option Value)) (h : ∀ (k : Nat) (v : Value), L'[k]? = some (some v) → L[k]? = some (some v)) (kk : sj_G X S cl sl L' pc rest) : sj_G X S cl sl L pc rest := by
  obtain ⟨p, l, e, R, s, m, args, below, meth, c, D, cy, A, nL, Q⟩ := X
  intro H locs ls h1 h2 h3
  refine kk H locs ls h1 h2 ⟨h3.1, h3.2.1, fun z hz => h3.2.2 z ?_⟩
  obtain ⟨k, e1, e2⟩ := sj_lv_inv _ _ _ hz
  have h5 := sj_lv_mem L 0 k _ (h k _ e2)
  have h6 : z.1 = 0 + k := e1
  rw [← h6] at h5
  exact h5
def sj_sub : List (Option Value) → List (Option Value) → Prop
  | [], _ => True
  | none :: t, [] => sj_sub t []
  | some _ :: _, [] => False
  | none :: t, _ :: u => sj_sub t u
  | some v :: t, w :: u => w = some v ∧ sj_sub t u
theorem sj_sub_of : ∀ (L' L : List (Option Value)), sj_sub L' L → ∀ (k : Nat) (v : Value), L'[k]? = some (some v) → L[k]? = some (some v)
  | [], _, _, k, v, hk => by simp at hk
  | none :: t, [], h, 0, v, hk => by simp at hk
  | none :: t, [], h, k + 1, v, hk => by
    have := sj_sub_of t [] h k v (by simpa using hk)
    simp at this
  | none :: t, _ :: u, h, 0, v, hk => by simp at hk
  | none :: t, _ :: u, h, k + 1, v, hk => by
    have := sj_sub_of t u h k v (by simpa using hk)
    simpa using this
  | some a :: t, [], h, k, v, hk => h.elim
  | some a :: t, w :: u, h, 0, v, hk => by
    have h1 : a = v := by simpa using hk
    subst h1
    simpa using h.1
  | some a :: t, w :: u, h, k + 1, v, hk => by
    have := sj_sub_of t u h.2 k v (by simpa using hk)
    simpa using this
theorem sj_for {X : sj_X} {S : sj_St} {cl sl : Nat} {L : List (Option Value)} {pc : Nat} {rest : List Value} (L' : List (Option Value)) (h : sj_sub L' L) (kk : sj_G X S cl sl L' pc rest) : sj_G X S cl sl L pc rest := sj_forget L' (sj_sub_of L' L h) kk
theorem sj_istore_n_0 {X : sj_X} {M : sj_M} (C : sj_C X M) {S : sj_St} {cl sl : Nat} {t : List (Option Value)} {b : Option Value} {pc : Nat} {rest : List Value} {x : Int32} (q : Nat) (hq : pc + 1 = q) (hd : decode M.2.1 pc = .ok (.istore_n 0, 1)) (hn : Nat.ble 1 M.2.2.1 = true) (hok : sj_okb (b :: t) 0 = true) (kk : sj_G X S cl sl (some (.int x) :: t) q rest) : sj_G X S cl sl (b :: t) pc (.int x :: rest) := sj_istore_n0 (i := 0) C q hq hd rfl hn hok kk
theorem sj_istore_0 {X : sj_X} {M : sj_M} (C : sj_C X M) {S : sj_St} {cl sl : Nat} {t : List (Option Value)} {b : Option Value} {pc : Nat} {rest : List Value} {x : Int32} (q : Nat) (hq : pc + 2 = q) (hd : decode M.2.1 pc = .ok (.istore 0, 2)) (hn : Nat.ble 1 M.2.2.1 = true) (hok : sj_okb (b :: t) 0 = true) (kk : sj_G X S cl sl (some (.int x) :: t) q rest) : sj_G X S cl sl (b :: t) pc (.int x :: rest) := sj_istore0 (i := 0) C q hq hd hn hok kk
theorem sj_istore_n_1 {X : sj_X} {M : sj_M} (C : sj_C X M) {S : sj_St} {cl sl : Nat} {t : List (Option Value)} {a0 b : Option Value} {pc : Nat} {rest : List Value} {x : Int32} (q : Nat) (hq : pc + 1 = q) (hd : decode M.2.1 pc = .ok (.istore_n 1, 1)) (hn : Nat.ble 2 M.2.2.1 = true) (hok : sj_okb (a0 :: b :: t) 1 = true) (kk : sj_G X S cl sl (a0 :: some (.int x) :: t) q rest) : sj_G X S cl sl (a0 :: b :: t) pc (.int x :: rest) := sj_istore_n0 (i := 1) C q hq hd rfl hn hok kk
theorem sj_istore_1 {X : sj_X} {M : sj_M} (C : sj_C X M) {S : sj_St} {cl sl : Nat} {t : List (Option Value)} {a0 b : Option Value} {pc : Nat} {rest : List Value} {x : Int32} (q : Nat) (hq : pc + 2 = q) (hd : decode M.2.1 pc = .ok (.istore 1, 2)) (hn : Nat.ble 2 M.2.2.1 = true) (hok : sj_okb (a0 :: b :: t) 1 = true) (kk : sj_G X S cl sl (a0 :: some (.int x) :: t) q rest) : sj_G X S cl sl (a0 :: b :: t) pc (.int x :: rest) := sj_istore0 (i := 1) C q hq hd hn hok kk
theorem sj_istore_n_2 {X : sj_X} {M : sj_M} (C : sj_C X M) {S : sj_St} {cl sl : Nat} {t : List (Option Value)} {a0 a1 b : Option Value} {pc : Nat} {rest : List Value} {x : Int32} (q : Nat) (hq : pc + 1 = q) (hd : decode M.2.1 pc = .ok (.istore_n 2, 1)) (hn : Nat.ble 3 M.2.2.1 = true) (hok : sj_okb (a0 :: a1 :: b :: t) 2 = true) (kk : sj_G X S cl sl (a0 :: a1 :: some (.int x) :: t) q rest) : sj_G X S cl sl (a0 :: a1 :: b :: t) pc (.int x :: rest) := sj_istore_n0 (i := 2) C q hq hd rfl hn hok kk
theorem sj_istore_2 {X : sj_X} {M : sj_M} (C : sj_C X M) {S : sj_St} {cl sl : Nat} {t : List (Option Value)} {a0 a1 b : Option Value} {pc : Nat} {rest : List Value} {x : Int32} (q : Nat) (hq : pc + 2 = q) (hd : decode M.2.1 pc = .ok (.istore 2, 2)) (hn : Nat.ble 3 M.2.2.1 = true) (hok : sj_okb (a0 :: a1 :: b :: t) 2 = true) (kk : sj_G X S cl sl (a0 :: a1 :: some (.int x) :: t) q rest) : sj_G X S cl sl (a0 :: a1 :: b :: t) pc (.int x :: rest) := sj_istore0 (i := 2) C q hq hd hn hok kk
theorem sj_istore_n_3 {X : sj_X} {M : sj_M} (C : sj_C X M) {S : sj_St} {cl sl : Nat} {t : List (Option Value)} {a0 a1 a2 b : Option Value} {pc : Nat} {rest : List Value} {x : Int32} (q : Nat) (hq : pc + 1 = q) (hd : decode M.2.1 pc = .ok (.istore_n 3, 1)) (hn : Nat.ble 4 M.2.2.1 = true) (hok : sj_okb (a0 :: a1 :: a2 :: b :: t) 3 = true) (kk : sj_G X S cl sl (a0 :: a1 :: a2 :: some (.int x) :: t) q rest) : sj_G X S cl sl (a0 :: a1 :: a2 :: b :: t) pc (.int x :: rest) := sj_istore_n0 (i := 3) C q hq hd rfl hn hok kk
theorem sj_istore_3 {X : sj_X} {M : sj_M} (C : sj_C X M) {S : sj_St} {cl sl : Nat} {t : List (Option Value)} {a0 a1 a2 b : Option Value} {pc : Nat} {rest : List Value} {x : Int32} (q : Nat) (hq : pc + 2 = q) (hd : decode M.2.1 pc = .ok (.istore 3, 2)) (hn : Nat.ble 4 M.2.2.1 = true) (hok : sj_okb (a0 :: a1 :: a2 :: b :: t) 3 = true) (kk : sj_G X S cl sl (a0 :: a1 :: a2 :: some (.int x) :: t) q rest) : sj_G X S cl sl (a0 :: a1 :: a2 :: b :: t) pc (.int x :: rest) := sj_istore0 (i := 3) C q hq hd hn hok kk
theorem sj_istore_4 {X : sj_X} {M : sj_M} (C : sj_C X M) {S : sj_St} {cl sl : Nat} {t : List (Option Value)} {a0 a1 a2 a3 b : Option Value} {pc : Nat} {rest : List Value} {x : Int32} (q : Nat) (hq : pc + 2 = q) (hd : decode M.2.1 pc = .ok (.istore 4, 2)) (hn : Nat.ble 5 M.2.2.1 = true) (hok : sj_okb (a0 :: a1 :: a2 :: a3 :: b :: t) 4 = true) (kk : sj_G X S cl sl (a0 :: a1 :: a2 :: a3 :: some (.int x) :: t) q rest) : sj_G X S cl sl (a0 :: a1 :: a2 :: a3 :: b :: t) pc (.int x :: rest) := sj_istore0 (i := 4) C q hq hd hn hok kk
theorem sj_istore_5 {X : sj_X} {M : sj_M} (C : sj_C X M) {S : sj_St} {cl sl : Nat} {t : List (Option Value)} {a0 a1 a2 a3 a4 b : Option Value} {pc : Nat} {rest : List Value} {x : Int32} (q : Nat) (hq : pc + 2 = q) (hd : decode M.2.1 pc = .ok (.istore 5, 2)) (hn : Nat.ble 6 M.2.2.1 = true) (hok : sj_okb (a0 :: a1 :: a2 :: a3 :: a4 :: b :: t) 5 = true) (kk : sj_G X S cl sl (a0 :: a1 :: a2 :: a3 :: a4 :: some (.int x) :: t) q rest) : sj_G X S cl sl (a0 :: a1 :: a2 :: a3 :: a4 :: b :: t) pc (.int x :: rest) := sj_istore0 (i := 5) C q hq hd hn hok kk
theorem sj_istore_6 {X : sj_X} {M : sj_M} (C : sj_C X M) {S : sj_St} {cl sl : Nat} {t : List (Option Value)} {a0 a1 a2 a3 a4 a5 b : Option Value} {pc : Nat} {rest : List Value} {x : Int32} (q : Nat) (hq : pc + 2 = q) (hd : decode M.2.1 pc = .ok (.istore 6, 2)) (hn : Nat.ble 7 M.2.2.1 = true) (hok : sj_okb (a0 :: a1 :: a2 :: a3 :: a4 :: a5 :: b :: t) 6 = true) (kk : sj_G X S cl sl (a0 :: a1 :: a2 :: a3 :: a4 :: a5 :: some (.int x) :: t) q rest) : sj_G X S cl sl (a0 :: a1 :: a2 :: a3 :: a4 :: a5 :: b :: t) pc (.int x :: rest) := sj_istore0 (i := 6) C q hq hd hn hok kk
theorem sj_istore_7 {X : sj_X} {M : sj_M} (C : sj_C X M) {S : sj_St} {cl sl : Nat} {t : List (Option Value)} {a0 a1 a2 a3 a4 a5 a6 b : Option Value} {pc : Nat} {rest : List Value} {x : Int32} (q : Nat) (hq : pc + 2 = q) (hd : decode M.2.1 pc = .ok (.istore 7, 2)) (hn : Nat.ble 8 M.2.2.1 = true) (hok : sj_okb (a0 :: a1 :: a2 :: a3 :: a4 :: a5 :: a6 :: b :: t) 7 = true) (kk : sj_G X S cl sl (a0 :: a1 :: a2 :: a3 :: a4 :: a5 :: a6 :: some (.int x) :: t) q rest) : sj_G X S cl sl (a0 :: a1 :: a2 :: a3 :: a4 :: a5 :: a6 :: b :: t) pc (.int x :: rest) := sj_istore0 (i := 7) C q hq hd hn hok kk
theorem sj_istore_8 {X : sj_X} {M : sj_M} (C : sj_C X M) {S : sj_St} {cl sl : Nat} {t : List (Option Value)} {a0 a1 a2 a3 a4 a5 a6 a7 b : Option Value} {pc : Nat} {rest : List Value} {x : Int32} (q : Nat) (hq : pc + 2 = q) (hd : decode M.2.1 pc = .ok (.istore 8, 2)) (hn : Nat.ble 9 M.2.2.1 = true) (hok : sj_okb (a0 :: a1 :: a2 :: a3 :: a4 :: a5 :: a6 :: a7 :: b :: t) 8 = true) (kk : sj_G X S cl sl (a0 :: a1 :: a2 :: a3 :: a4 :: a5 :: a6 :: a7 :: some (.int x) :: t) q rest) : sj_G X S cl sl (a0 :: a1 :: a2 :: a3 :: a4 :: a5 :: a6 :: a7 :: b :: t) pc (.int x :: rest) := sj_istore0 (i := 8) C q hq hd hn hok kk
theorem sj_istore_9 {X : sj_X} {M : sj_M} (C : sj_C X M) {S : sj_St} {cl sl : Nat} {t : List (Option Value)} {a0 a1 a2 a3 a4 a5 a6 a7 a8 b : Option Value} {pc : Nat} {rest : List Value} {x : Int32} (q : Nat) (hq : pc + 2 = q) (hd : decode M.2.1 pc = .ok (.istore 9, 2)) (hn : Nat.ble 10 M.2.2.1 = true) (hok : sj_okb (a0 :: a1 :: a2 :: a3 :: a4 :: a5 :: a6 :: a7 :: a8 :: b :: t) 9 = true) (kk : sj_G X S cl sl (a0 :: a1 :: a2 :: a3 :: a4 :: a5 :: a6 :: a7 :: a8 :: some (.int x) :: t) q rest) : sj_G X S cl sl (a0 :: a1 :: a2 :: a3 :: a4 :: a5 :: a6 :: a7 :: a8 :: b :: t) pc (.int x :: rest) := sj_istore0 (i := 9) C q hq hd hn hok kk
theorem sj_istore_10 {X : sj_X} {M : sj_M} (C : sj_C X M) {S : sj_St} {cl sl : Nat} {t : List (Option Value)} {a0 a1 a2 a3 a4 a5 a6 a7 a8 a9 b : Option Value} {pc : Nat} {rest : List Value} {x : Int32} (q : Nat) (hq : pc + 2 = q) (hd : decode M.2.1 pc = .ok (.istore 10, 2)) (hn : Nat.ble 11 M.2.2.1 = true) (hok : sj_okb (a0 :: a1 :: a2 :: a3 :: a4 :: a5 :: a6 :: a7 :: a8 :: a9 :: b :: t) 10 = true) (kk : sj_G X S cl sl (a0 :: a1 :: a2 :: a3 :: a4 :: a5 :: a6 :: a7 :: a8 :: a9 :: some (.int x) :: t) q rest) : sj_G X S cl sl (a0 :: a1 :: a2 :: a3 :: a4 :: a5 :: a6 :: a7 :: a8 :: a9 :: b :: t) pc (.int x :: rest) := sj_istore0 (i := 10) C q hq hd hn hok kk
theorem sj_istore_11 {X : sj_X} {M : sj_M} (C : sj_C X M) {S : sj_St} {cl sl : Nat} {t : List (Option Value)} {a0 a1 a2 a3 a4 a5 a6 a7 a8 a9 a10 b : Option Value} {pc : Nat} {rest : List Value} {x : Int32} (q : Nat) (hq : pc + 2 = q) (hd : decode M.2.1 pc = .ok (.istore 11, 2)) (hn : Nat.ble 12 M.2.2.1 = true) (hok : sj_okb (a0 :: a1 :: a2 :: a3 :: a4 :: a5 :: a6 :: a7 :: a8 :: a9 :: a10 :: b :: t) 11 = true) (kk : sj_G X S cl sl (a0 :: a1 :: a2 :: a3 :: a4 :: a5 :: a6 :: a7 :: a8 :: a9 :: a10 :: some (.int x) :: t) q rest) : sj_G X S cl sl (a0 :: a1 :: a2 :: a3 :: a4 :: a5 :: a6 :: a7 :: a8 :: a9 :: a10 :: b :: t) pc (.int x :: rest) := sj_istore0 (i := 11) C q hq hd hn hok kk
theorem sj_astore_n_0 {X : sj_X} {M : sj_M} (C : sj_C X M) {S : sj_St} {cl sl : Nat} {t : List (Option Value)} {b : Option Value} {pc : Nat} {rest : List Value} {x : Nat} (q : Nat) (hq : pc + 1 = q) (hd : decode M.2.1 pc = .ok (.astore_n 0, 1)) (hn : Nat.ble 1 M.2.2.1 = true) (hok : sj_okb (b :: t) 0 = true) (kk : sj_G X S cl sl (some (.ref x) :: t) q rest) : sj_G X S cl sl (b :: t) pc (.ref x :: rest) := sj_astore_n0 (i := 0) C q hq hd rfl hn hok kk
theorem sj_astore_0 {X : sj_X} {M : sj_M} (C : sj_C X M) {S : sj_St} {cl sl : Nat} {t : List (Option Value)} {b : Option Value} {pc : Nat} {rest : List Value} {x : Nat} (q : Nat) (hq : pc + 2 = q) (hd : decode M.2.1 pc = .ok (.astore 0, 2)) (hn : Nat.ble 1 M.2.2.1 = true) (hok : sj_okb (b :: t) 0 = true) (kk : sj_G X S cl sl (some (.ref x) :: t) q rest) : sj_G X S cl sl (b :: t) pc (.ref x :: rest) := sj_astore0 (i := 0) C q hq hd hn hok kk
theorem sj_astore_n_1 {X : sj_X} {M : sj_M} (C : sj_C X M) {S : sj_St} {cl sl : Nat} {t : List (Option Value)} {a0 b : Option Value} {pc : Nat} {rest : List Value} {x : Nat} (q : Nat) (hq : pc + 1 = q) (hd : decode M.2.1 pc = .ok (.astore_n 1, 1)) (hn : Nat.ble 2 M.2.2.1 = true) (hok : sj_okb (a0 :: b :: t) 1 = true) (kk : sj_G X S cl sl (a0 :: some (.ref x) :: t) q rest) : sj_G X S cl sl (a0 :: b :: t) pc (.ref x :: rest) := sj_astore_n0 (i := 1) C q hq hd rfl hn hok kk
theorem sj_astore_1 {X : sj_X} {M : sj_M} (C : sj_C X M) {S : sj_St} {cl sl : Nat} {t : List (Option Value)} {a0 b : Option Value} {pc : Nat} {rest : List Value} {x : Nat} (q : Nat) (hq : pc + 2 = q) (hd : decode M.2.1 pc = .ok (.astore 1, 2)) (hn : Nat.ble 2 M.2.2.1 = true) (hok : sj_okb (a0 :: b :: t) 1 = true) (kk : sj_G X S cl sl (a0 :: some (.ref x) :: t) q rest) : sj_G X S cl sl (a0 :: b :: t) pc (.ref x :: rest) := sj_astore0 (i := 1) C q hq hd hn hok kk
theorem sj_astore_n_2 {X : sj_X} {M : sj_M} (C : sj_C X M) {S : sj_St} {cl sl : Nat} {t : List (Option Value)} {a0 a1 b : Option Value} {pc : Nat} {rest : List Value} {x : Nat} (q : Nat) (hq : pc + 1 = q) (hd : decode M.2.1 pc = .ok (.astore_n 2, 1)) (hn : Nat.ble 3 M.2.2.1 = true) (hok : sj_okb (a0 :: a1 :: b :: t) 2 = true) (kk : sj_G X S cl sl (a0 :: a1 :: some (.ref x) :: t) q rest) : sj_G X S cl sl (a0 :: a1 :: b :: t) pc (.ref x :: rest) := sj_astore_n0 (i := 2) C q hq hd rfl hn hok kk
theorem sj_astore_2 {X : sj_X} {M : sj_M} (C : sj_C X M) {S : sj_St} {cl sl : Nat} {t : List (Option Value)} {a0 a1 b : Option Value} {pc : Nat} {rest : List Value} {x : Nat} (q : Nat) (hq : pc + 2 = q) (hd : decode M.2.1 pc = .ok (.astore 2, 2)) (hn : Nat.ble 3 M.2.2.1 = true) (hok : sj_okb (a0 :: a1 :: b :: t) 2 = true) (kk : sj_G X S cl sl (a0 :: a1 :: some (.ref x) :: t) q rest) : sj_G X S cl sl (a0 :: a1 :: b :: t) pc (.ref x :: rest) := sj_astore0 (i := 2) C q hq hd hn hok kk
theorem sj_astore_n_3 {X : sj_X} {M : sj_M} (C : sj_C X M) {S : sj_St} {cl sl : Nat} {t : List (Option Value)} {a0 a1 a2 b : Option Value} {pc : Nat} {rest : List Value} {x : Nat} (q : Nat) (hq : pc + 1 = q) (hd : decode M.2.1 pc = .ok (.astore_n 3, 1)) (hn : Nat.ble 4 M.2.2.1 = true) (hok : sj_okb (a0 :: a1 :: a2 :: b :: t) 3 = true) (kk : sj_G X S cl sl (a0 :: a1 :: a2 :: some (.ref x) :: t) q rest) : sj_G X S cl sl (a0 :: a1 :: a2 :: b :: t) pc (.ref x :: rest) := sj_astore_n0 (i := 3) C q hq hd rfl hn hok kk
theorem sj_astore_3 {X : sj_X} {M : sj_M} (C : sj_C X M) {S : sj_St} {cl sl : Nat} {t : List (Option Value)} {a0 a1 a2 b : Option Value} {pc : Nat} {rest : List Value} {x : Nat} (q : Nat) (hq : pc + 2 = q) (hd : decode M.2.1 pc = .ok (.astore 3, 2)) (hn : Nat.ble 4 M.2.2.1 = true) (hok : sj_okb (a0 :: a1 :: a2 :: b :: t) 3 = true) (kk : sj_G X S cl sl (a0 :: a1 :: a2 :: some (.ref x) :: t) q rest) : sj_G X S cl sl (a0 :: a1 :: a2 :: b :: t) pc (.ref x :: rest) := sj_astore0 (i := 3) C q hq hd hn hok kk
theorem sj_astore_4 {X : sj_X} {M : sj_M} (C : sj_C X M) {S : sj_St} {cl sl : Nat} {t : List (Option Value)} {a0 a1 a2 a3 b : Option Value} {pc : Nat} {rest : List Value} {x : Nat} (q : Nat) (hq : pc + 2 = q) (hd : decode M.2.1 pc = .ok (.astore 4, 2)) (hn : Nat.ble 5 M.2.2.1 = true) (hok : sj_okb (a0 :: a1 :: a2 :: a3 :: b :: t) 4 = true) (kk : sj_G X S cl sl (a0 :: a1 :: a2 :: a3 :: some (.ref x) :: t) q rest) : sj_G X S cl sl (a0 :: a1 :: a2 :: a3 :: b :: t) pc (.ref x :: rest) := sj_astore0 (i := 4) C q hq hd hn hok kk
theorem sj_astore_5 {X : sj_X} {M : sj_M} (C : sj_C X M) {S : sj_St} {cl sl : Nat} {t : List (Option Value)} {a0 a1 a2 a3 a4 b : Option Value} {pc : Nat} {rest : List Value} {x : Nat} (q : Nat) (hq : pc + 2 = q) (hd : decode M.2.1 pc = .ok (.astore 5, 2)) (hn : Nat.ble 6 M.2.2.1 = true) (hok : sj_okb (a0 :: a1 :: a2 :: a3 :: a4 :: b :: t) 5 = true) (kk : sj_G X S cl sl (a0 :: a1 :: a2 :: a3 :: a4 :: some (.ref x) :: t) q rest) : sj_G X S cl sl (a0 :: a1 :: a2 :: a3 :: a4 :: b :: t) pc (.ref x :: rest) := sj_astore0 (i := 5) C q hq hd hn hok kk
theorem sj_astore_6 {X : sj_X} {M : sj_M} (C : sj_C X M) {S : sj_St} {cl sl : Nat} {t : List (Option Value)} {a0 a1 a2 a3 a4 a5 b : Option Value} {pc : Nat} {rest : List Value} {x : Nat} (q : Nat) (hq : pc + 2 = q) (hd : decode M.2.1 pc = .ok (.astore 6, 2)) (hn : Nat.ble 7 M.2.2.1 = true) (hok : sj_okb (a0 :: a1 :: a2 :: a3 :: a4 :: a5 :: b :: t) 6 = true) (kk : sj_G X S cl sl (a0 :: a1 :: a2 :: a3 :: a4 :: a5 :: some (.ref x) :: t) q rest) : sj_G X S cl sl (a0 :: a1 :: a2 :: a3 :: a4 :: a5 :: b :: t) pc (.ref x :: rest) := sj_astore0 (i := 6) C q hq hd hn hok kk
theorem sj_astore_7 {X : sj_X} {M : sj_M} (C : sj_C X M) {S : sj_St} {cl sl : Nat} {t : List (Option Value)} {a0 a1 a2 a3 a4 a5 a6 b : Option Value} {pc : Nat} {rest : List Value} {x : Nat} (q : Nat) (hq : pc + 2 = q) (hd : decode M.2.1 pc = .ok (.astore 7, 2)) (hn : Nat.ble 8 M.2.2.1 = true) (hok : sj_okb (a0 :: a1 :: a2 :: a3 :: a4 :: a5 :: a6 :: b :: t) 7 = true) (kk : sj_G X S cl sl (a0 :: a1 :: a2 :: a3 :: a4 :: a5 :: a6 :: some (.ref x) :: t) q rest) : sj_G X S cl sl (a0 :: a1 :: a2 :: a3 :: a4 :: a5 :: a6 :: b :: t) pc (.ref x :: rest) := sj_astore0 (i := 7) C q hq hd hn hok kk
theorem sj_astore_8 {X : sj_X} {M : sj_M} (C : sj_C X M) {S : sj_St} {cl sl : Nat} {t : List (Option Value)} {a0 a1 a2 a3 a4 a5 a6 a7 b : Option Value} {pc : Nat} {rest : List Value} {x : Nat} (q : Nat) (hq : pc + 2 = q) (hd : decode M.2.1 pc = .ok (.astore 8, 2)) (hn : Nat.ble 9 M.2.2.1 = true) (hok : sj_okb (a0 :: a1 :: a2 :: a3 :: a4 :: a5 :: a6 :: a7 :: b :: t) 8 = true) (kk : sj_G X S cl sl (a0 :: a1 :: a2 :: a3 :: a4 :: a5 :: a6 :: a7 :: some (.ref x) :: t) q rest) : sj_G X S cl sl (a0 :: a1 :: a2 :: a3 :: a4 :: a5 :: a6 :: a7 :: b :: t) pc (.ref x :: rest) := sj_astore0 (i := 8) C q hq hd hn hok kk
theorem sj_astore_9 {X : sj_X} {M : sj_M} (C : sj_C X M) {S : sj_St} {cl sl : Nat} {t : List (Option Value)} {a0 a1 a2 a3 a4 a5 a6 a7 a8 b : Option Value} {pc : Nat} {rest : List Value} {x : Nat} (q : Nat) (hq : pc + 2 = q) (hd : decode M.2.1 pc = .ok (.astore 9, 2)) (hn : Nat.ble 10 M.2.2.1 = true) (hok : sj_okb (a0 :: a1 :: a2 :: a3 :: a4 :: a5 :: a6 :: a7 :: a8 :: b :: t) 9 = true) (kk : sj_G X S cl sl (a0 :: a1 :: a2 :: a3 :: a4 :: a5 :: a6 :: a7 :: a8 :: some (.ref x) :: t) q rest) : sj_G X S cl sl (a0 :: a1 :: a2 :: a3 :: a4 :: a5 :: a6 :: a7 :: a8 :: b :: t) pc (.ref x :: rest) := sj_astore0 (i := 9) C q hq hd hn hok kk
theorem sj_astore_10 {X : sj_X} {M : sj_M} (C : sj_C X M) {S : sj_St} {cl sl : Nat} {t : List (Option Value)} {a0 a1 a2 a3 a4 a5 a6 a7 a8 a9 b : Option Value} {pc : Nat} {rest : List Value} {x : Nat} (q : Nat) (hq : pc + 2 = q) (hd : decode M.2.1 pc = .ok (.astore 10, 2)) (hn : Nat.ble 11 M.2.2.1 = true) (hok : sj_okb (a0 :: a1 :: a2 :: a3 :: a4 :: a5 :: a6 :: a7 :: a8 :: a9 :: b :: t) 10 = true) (kk : sj_G X S cl sl (a0 :: a1 :: a2 :: a3 :: a4 :: a5 :: a6 :: a7 :: a8 :: a9 :: some (.ref x) :: t) q rest) : sj_G X S cl sl (a0 :: a1 :: a2 :: a3 :: a4 :: a5 :: a6 :: a7 :: a8 :: a9 :: b :: t) pc (.ref x :: rest) := sj_astore0 (i := 10) C q hq hd hn hok kk
theorem sj_astore_11 {X : sj_X} {M : sj_M} (C : sj_C X M) {S : sj_St} {cl sl : Nat} {t : List (Option Value)} {a0 a1 a2 a3 a4 a5 a6 a7 a8 a9 a10 b : Option Value} {pc : Nat} {rest : List Value} {x : Nat} (q : Nat) (hq : pc + 2 = q) (hd : decode M.2.1 pc = .ok (.astore 11, 2)) (hn : Nat.ble 12 M.2.2.1 = true) (hok : sj_okb (a0 :: a1 :: a2 :: a3 :: a4 :: a5 :: a6 :: a7 :: a8 :: a9 :: a10 :: b :: t) 11 = true) (kk : sj_G X S cl sl (a0 :: a1 :: a2 :: a3 :: a4 :: a5 :: a6 :: a7 :: a8 :: a9 :: a10 :: some (.ref x) :: t) q rest) : sj_G X S cl sl (a0 :: a1 :: a2 :: a3 :: a4 :: a5 :: a6 :: a7 :: a8 :: a9 :: a10 :: b :: t) pc (.ref x :: rest) := sj_astore0 (i := 11) C q hq hd hn hok kk
theorem sj_lstore_n_0 {X : sj_X} {M : sj_M} (C : sj_C X M) {S : sj_St} {cl sl : Nat} {t : List (Option Value)} {b b2 : Option Value} {pc : Nat} {rest : List Value} {x : Int64} (q : Nat) (hq : pc + 1 = q) (hd : decode M.2.1 pc = .ok (.lstore_n 0, 1)) (hn : Nat.ble 2 M.2.2.1 = true) (hok : sj_okb (b :: b2 :: t) 0 = true) (kk : sj_G X S cl sl (some (.long x) :: none :: t) q rest) : sj_G X S cl sl (b :: b2 :: t) pc (.long x :: rest) := sj_lstore_n0 (i := 0) C q hq hd rfl hn hok kk
theorem sj_lstore_0 {X : sj_X} {M : sj_M} (C : sj_C X M) {S : sj_St} {cl sl : Nat} {t : List (Option Value)} {b b2 : Option Value} {pc : Nat} {rest : List Value} {x : Int64} (q : Nat) (hq : pc + 2 = q) (hd : decode M.2.1 pc = .ok (.lstore 0, 2)) (hn : Nat.ble 2 M.2.2.1 = true) (hok : sj_okb (b :: b2 :: t) 0 = true) (kk : sj_G X S cl sl (some (.long x) :: none :: t) q rest) : sj_G X S cl sl (b :: b2 :: t) pc (.long x :: rest) := sj_lstore0 (i := 0) C q hq hd hn hok kk
theorem sj_lstore_n_1 {X : sj_X} {M : sj_M} (C : sj_C X M) {S : sj_St} {cl sl : Nat} {t : List (Option Value)} {a0 b b2 : Option Value} {pc : Nat} {rest : List Value} {x : Int64} (q : Nat) (hq : pc + 1 = q) (hd : decode M.2.1 pc = .ok (.lstore_n 1, 1)) (hn : Nat.ble 3 M.2.2.1 = true) (hok : sj_okb (a0 :: b :: b2 :: t) 1 = true) (kk : sj_G X S cl sl (a0 :: some (.long x) :: none :: t) q rest) : sj_G X S cl sl (a0 :: b :: b2 :: t) pc (.long x :: rest) := sj_lstore_n0 (i := 1) C q hq hd rfl hn hok kk
theorem sj_lstore_1 {X : sj_X} {M : sj_M} (C : sj_C X M) {S : sj_St} {cl sl : Nat} {t : List (Option Value)} {a0 b b2 : Option Value} {pc : Nat} {rest : List Value} {x : Int64} (q : Nat) (hq : pc + 2 = q) (hd : decode M.2.1 pc = .ok (.lstore 1, 2)) (hn : Nat.ble 3 M.2.2.1 = true) (hok : sj_okb (a0 :: b :: b2 :: t) 1 = true) (kk : sj_G X S cl sl (a0 :: some (.long x) :: none :: t) q rest) : sj_G X S cl sl (a0 :: b :: b2 :: t) pc (.long x :: rest) := sj_lstore0 (i := 1) C q hq hd hn hok kk
theorem sj_lstore_n_2 {X : sj_X} {M : sj_M} (C : sj_C X M) {S : sj_St} {cl sl : Nat} {t : List (Option Value)} {a0 a1 b b2 : Option Value} {pc : Nat} {rest : List Value} {x : Int64} (q : Nat) (hq : pc + 1 = q) (hd : decode M.2.1 pc = .ok (.lstore_n 2, 1)) (hn : Nat.ble 4 M.2.2.1 = true) (hok : sj_okb (a0 :: a1 :: b :: b2 :: t) 2 = true) (kk : sj_G X S cl sl (a0 :: a1 :: some (.long x) :: none :: t) q rest) : sj_G X S cl sl (a0 :: a1 :: b :: b2 :: t) pc (.long x :: rest) := sj_lstore_n0 (i := 2) C q hq hd rfl hn hok kk
theorem sj_lstore_2 {X : sj_X} {M : sj_M} (C : sj_C X M) {S : sj_St} {cl sl : Nat} {t : List (Option Value)} {a0 a1 b b2 : Option Value} {pc : Nat} {rest : List Value} {x : Int64} (q : Nat) (hq : pc + 2 = q) (hd : decode M.2.1 pc = .ok (.lstore 2, 2)) (hn : Nat.ble 4 M.2.2.1 = true) (hok : sj_okb (a0 :: a1 :: b :: b2 :: t) 2 = true) (kk : sj_G X S cl sl (a0 :: a1 :: some (.long x) :: none :: t) q rest) : sj_G X S cl sl (a0 :: a1 :: b :: b2 :: t) pc (.long x :: rest) := sj_lstore0 (i := 2) C q hq hd hn hok kk
theorem sj_lstore_n_3 {X : sj_X} {M : sj_M} (C : sj_C X M) {S : sj_St} {cl sl : Nat} {t : List (Option Value)} {a0 a1 a2 b b2 : Option Value} {pc : Nat} {rest : List Value} {x : Int64} (q : Nat) (hq : pc + 1 = q) (hd : decode M.2.1 pc = .ok (.lstore_n 3, 1)) (hn : Nat.ble 5 M.2.2.1 = true) (hok : sj_okb (a0 :: a1 :: a2 :: b :: b2 :: t) 3 = true) (kk : sj_G X S cl sl (a0 :: a1 :: a2 :: some (.long x) :: none :: t) q rest) : sj_G X S cl sl (a0 :: a1 :: a2 :: b :: b2 :: t) pc (.long x :: rest) := sj_lstore_n0 (i := 3) C q hq hd rfl hn hok kk
theorem sj_lstore_3 {X : sj_X} {M : sj_M} (C : sj_C X M) {S : sj_St} {cl sl : Nat} {t : List (Option Value)} {a0 a1 a2 b b2 : Option Value} {pc : Nat} {rest : List Value} {x : Int64} (q : Nat) (hq : pc + 2 = q) (hd : decode M.2.1 pc = .ok (.lstore 3, 2)) (hn : Nat.ble 5 M.2.2.1 = true) (hok : sj_okb (a0 :: a1 :: a2 :: b :: b2 :: t) 3 = true) (kk : sj_G X S cl sl (a0 :: a1 :: a2 :: some (.long x) :: none :: t) q rest) : sj_G X S cl sl (a0 :: a1 :: a2 :: b :: b2 :: t) pc (.long x :: rest) := sj_lstore0 (i := 3) C q hq hd hn hok kk
theorem sj_lstore_4 {X : sj_X} {M : sj_M} (C : sj_C X M) {S : sj_St} {cl sl : Nat} {t : List (Option Value)} {a0 a1 a2 a3 b b2 : Option Value} {pc : Nat} {rest : List Value} {x : Int64} (q : Nat) (hq : pc + 2 = q) (hd : decode M.2.1 pc = .ok (.lstore 4, 2)) (hn : Nat.ble 6 M.2.2.1 = true) (hok : sj_okb (a0 :: a1 :: a2 :: a3 :: b :: b2 :: t) 4 = true) (kk : sj_G X S cl sl (a0 :: a1 :: a2 :: a3 :: some (.long x) :: none :: t) q rest) : sj_G X S cl sl (a0 :: a1 :: a2 :: a3 :: b :: b2 :: t) pc (.long x :: rest) := sj_lstore0 (i := 4) C q hq hd hn hok kk
theorem sj_lstore_5 {X : sj_X} {M : sj_M} (C : sj_C X M) {S : sj_St} {cl sl : Nat} {t : List (Option Value)} {a0 a1 a2 a3 a4 b b2 : Option Value} {pc : Nat} {rest : List Value} {x : Int64} (q : Nat) (hq : pc + 2 = q) (hd : decode M.2.1 pc = .ok (.lstore 5, 2)) (hn : Nat.ble 7 M.2.2.1 = true) (hok : sj_okb (a0 :: a1 :: a2 :: a3 :: a4 :: b :: b2 :: t) 5 = true) (kk : sj_G X S cl sl (a0 :: a1 :: a2 :: a3 :: a4 :: some (.long x) :: none :: t) q rest) : sj_G X S cl sl (a0 :: a1 :: a2 :: a3 :: a4 :: b :: b2 :: t) pc (.long x :: rest) := sj_lstore0 (i := 5) C q hq hd hn hok kk
theorem sj_lstore_6 {X : sj_X} {M : sj_M} (C : sj_C X M) {S : sj_St} {cl sl : Nat} {t : List (Option Value)} {a0 a1 a2 a3 a4 a5 b b2 : Option Value} {pc : Nat} {rest : List Value} {x : Int64} (q : Nat) (hq : pc + 2 = q) (hd : decode M.2.1 pc = .ok (.lstore 6, 2)) (hn : Nat.ble 8 M.2.2.1 = true) (hok : sj_okb (a0 :: a1 :: a2 :: a3 :: a4 :: a5 :: b :: b2 :: t) 6 = true) (kk : sj_G X S cl sl (a0 :: a1 :: a2 :: a3 :: a4 :: a5 :: some (.long x) :: none :: t) q rest) : sj_G X S cl sl (a0 :: a1 :: a2 :: a3 :: a4 :: a5 :: b :: b2 :: t) pc (.long x :: rest) := sj_lstore0 (i := 6) C q hq hd hn hok kk
theorem sj_lstore_7 {X : sj_X} {M : sj_M} (C : sj_C X M) {S : sj_St} {cl sl : Nat} {t : List (Option Value)} {a0 a1 a2 a3 a4 a5 a6 b b2 : Option Value} {pc : Nat} {rest : List Value} {x : Int64} (q : Nat) (hq : pc + 2 = q) (hd : decode M.2.1 pc = .ok (.lstore 7, 2)) (hn : Nat.ble 9 M.2.2.1 = true) (hok : sj_okb (a0 :: a1 :: a2 :: a3 :: a4 :: a5 :: a6 :: b :: b2 :: t) 7 = true) (kk : sj_G X S cl sl (a0 :: a1 :: a2 :: a3 :: a4 :: a5 :: a6 :: some (.long x) :: none :: t) q rest) : sj_G X S cl sl (a0 :: a1 :: a2 :: a3 :: a4 :: a5 :: a6 :: b :: b2 :: t) pc (.long x :: rest) := sj_lstore0 (i := 7) C q hq hd hn hok kk
theorem sj_lstore_8 {X : sj_X} {M : sj_M} (C : sj_C X M) {S : sj_St} {cl sl : Nat} {t : List (Option Value)} {a0 a1 a2 a3 a4 a5 a6 a7 b b2 : Option Value} {pc : Nat} {rest : List Value} {x : Int64} (q : Nat) (hq : pc + 2 = q) (hd : decode M.2.1 pc = .ok (.lstore 8, 2)) (hn : Nat.ble 10 M.2.2.1 = true) (hok : sj_okb (a0 :: a1 :: a2 :: a3 :: a4 :: a5 :: a6 :: a7 :: b :: b2 :: t) 8 = true) (kk : sj_G X S cl sl (a0 :: a1 :: a2 :: a3 :: a4 :: a5 :: a6 :: a7 :: some (.long x) :: none :: t) q rest) : sj_G X S cl sl (a0 :: a1 :: a2 :: a3 :: a4 :: a5 :: a6 :: a7 :: b :: b2 :: t) pc (.long x :: rest) := sj_lstore0 (i := 8) C q hq hd hn hok kk
theorem sj_lstore_9 {X : sj_X} {M : sj_M} (C : sj_C X M) {S : sj_St} {cl sl : Nat} {t : List (Option Value)} {a0 a1 a2 a3 a4 a5 a6 a7 a8 b b2 : Option Value} {pc : Nat} {rest : List Value} {x : Int64} (q : Nat) (hq : pc + 2 = q) (hd : decode M.2.1 pc = .ok (.lstore 9, 2)) (hn : Nat.ble 11 M.2.2.1 = true) (hok : sj_okb (a0 :: a1 :: a2 :: a3 :: a4 :: a5 :: a6 :: a7 :: a8 :: b :: b2 :: t) 9 = true) (kk : sj_G X S cl sl (a0 :: a1 :: a2 :: a3 :: a4 :: a5 :: a6 :: a7 :: a8 :: some (.long x) :: none :: t) q rest) : sj_G X S cl sl (a0 :: a1 :: a2 :: a3 :: a4 :: a5 :: a6 :: a7 :: a8 :: b :: b2 :: t) pc (.long x :: rest) := sj_lstore0 (i := 9) C q hq hd hn hok kk
theorem sj_lstore_10 {X : sj_X} {M : sj_M} (C : sj_C X M) {S : sj_St} {cl sl : Nat} {t : List (Option Value)} {a0 a1 a2 a3 a4 a5 a6 a7 a8 a9 b b2 : Option Value} {pc : Nat} {rest : List Value} {x : Int64} (q : Nat) (hq : pc + 2 = q) (hd : decode M.2.1 pc = .ok (.lstore 10, 2)) (hn : Nat.ble 12 M.2.2.1 = true) (hok : sj_okb (a0 :: a1 :: a2 :: a3 :: a4 :: a5 :: a6 :: a7 :: a8 :: a9 :: b :: b2 :: t) 10 = true) (kk : sj_G X S cl sl (a0 :: a1 :: a2 :: a3 :: a4 :: a5 :: a6 :: a7 :: a8 :: a9 :: some (.long x) :: none :: t) q rest) : sj_G X S cl sl (a0 :: a1 :: a2 :: a3 :: a4 :: a5 :: a6 :: a7 :: a8 :: a9 :: b :: b2 :: t) pc (.long x :: rest) := sj_lstore0 (i := 10) C q hq hd hn hok kk
theorem sj_lstore_11 {X : sj_X} {M : sj_M} (C : sj_C X M) {S : sj_St} {cl sl : Nat} {t : List (Option Value)} {a0 a1 a2 a3 a4 a5 a6 a7 a8 a9 a10 b b2 : Option Value} {pc : Nat} {rest : List Value} {x : Int64} (q : Nat) (hq : pc + 2 = q) (hd : decode M.2.1 pc = .ok (.lstore 11, 2)) (hn : Nat.ble 13 M.2.2.1 = true) (hok : sj_okb (a0 :: a1 :: a2 :: a3 :: a4 :: a5 :: a6 :: a7 :: a8 :: a9 :: a10 :: b :: b2 :: t) 11 = true) (kk : sj_G X S cl sl (a0 :: a1 :: a2 :: a3 :: a4 :: a5 :: a6 :: a7 :: a8 :: a9 :: a10 :: some (.long x) :: none :: t) q rest) : sj_G X S cl sl (a0 :: a1 :: a2 :: a3 :: a4 :: a5 :: a6 :: a7 :: a8 :: a9 :: a10 :: b :: b2 :: t) pc (.long x :: rest) := sj_lstore0 (i := 11) C q hq hd hn hok kk
theorem sj_dstore_n_0 {X : sj_X} {M : sj_M} (C : sj_C X M) {S : sj_St} {cl sl : Nat} {t : List (Option Value)} {b b2 : Option Value} {pc : Nat} {rest : List Value} {x : UInt64} (q : Nat) (hq : pc + 1 = q) (hd : decode M.2.1 pc = .ok (.dstore_n 0, 1)) (hn : Nat.ble 2 M.2.2.1 = true) (hok : sj_okb (b :: b2 :: t) 0 = true) (kk : sj_G X S cl sl (some (.double x) :: none :: t) q rest) : sj_G X S cl sl (b :: b2 :: t) pc (.double x :: rest) := sj_dstore_n0 (i := 0) C q hq hd rfl hn hok kk
theorem sj_dstore_0 {X : sj_X} {M : sj_M} (C : sj_C X M) {S : sj_St} {cl sl : Nat} {t : List (Option Value)} {b b2 : Option Value} {pc : Nat} {rest : List Value} {x : UInt64} (q : Nat) (hq : pc + 2 = q) (hd : decode M.2.1 pc = .ok (.dstore 0, 2)) (hn : Nat.ble 2 M.2.2.1 = true) (hok : sj_okb (b :: b2 :: t) 0 = true) (kk : sj_G X S cl sl (some (.double x) :: none :: t) q rest) : sj_G X S cl sl (b :: b2 :: t) pc (.double x :: rest) := sj_dstore0 (i := 0) C q hq hd hn hok kk
theorem sj_dstore_n_1 {X : sj_X} {M : sj_M} (C : sj_C X M) {S : sj_St} {cl sl : Nat} {t : List (Option Value)} {a0 b b2 : Option Value} {pc : Nat} {rest : List Value} {x : UInt64} (q : Nat) (hq : pc + 1 = q) (hd : decode M.2.1 pc = .ok (.dstore_n 1, 1)) (hn : Nat.ble 3 M.2.2.1 = true) (hok : sj_okb (a0 :: b :: b2 :: t) 1 = true) (kk : sj_G X S cl sl (a0 :: some (.double x) :: none :: t) q rest) : sj_G X S cl sl (a0 :: b :: b2 :: t) pc (.double x :: rest) := sj_dstore_n0 (i := 1) C q hq hd rfl hn hok kk
theorem sj_dstore_1 {X : sj_X} {M : sj_M} (C : sj_C X M) {S : sj_St} {cl sl : Nat} {t : List (Option Value)} {a0 b b2 : Option Value} {pc : Nat} {rest : List Value} {x : UInt64} (q : Nat) (hq : pc + 2 = q) (hd : decode M.2.1 pc = .ok (.dstore 1, 2)) (hn : Nat.ble 3 M.2.2.1 = true) (hok : sj_okb (a0 :: b :: b2 :: t) 1 = true) (kk : sj_G X S cl sl (a0 :: some (.double x) :: none :: t) q rest) : sj_G X S cl sl (a0 :: b :: b2 :: t) pc (.double x :: rest) := sj_dstore0 (i := 1) C q hq hd hn hok kk
theorem sj_dstore_n_2 {X : sj_X} {M : sj_M} (C : sj_C X M) {S : sj_St} {cl sl : Nat} {t : List (Option Value)} {a0 a1 b b2 : Option Value} {pc : Nat} {rest : List Value} {x : UInt64} (q : Nat) (hq : pc + 1 = q) (hd : decode M.2.1 pc = .ok (.dstore_n 2, 1)) (hn : Nat.ble 4 M.2.2.1 = true) (hok : sj_okb (a0 :: a1 :: b :: b2 :: t) 2 = true) (kk : sj_G X S cl sl (a0 :: a1 :: some (.double x) :: none :: t) q rest) : sj_G X S cl sl (a0 :: a1 :: b :: b2 :: t) pc (.double x :: rest) := sj_dstore_n0 (i := 2) C q hq hd rfl hn hok kk
theorem sj_dstore_2 {X : sj_X} {M : sj_M} (C : sj_C X M) {S : sj_St} {cl sl : Nat} {t : List (Option Value)} {a0 a1 b b2 : Option Value} {pc : Nat} {rest : List Value} {x : UInt64} (q : Nat) (hq : pc + 2 = q) (hd : decode M.2.1 pc = .ok (.dstore 2, 2)) (hn : Nat.ble 4 M.2.2.1 = true) (hok : sj_okb (a0 :: a1 :: b :: b2 :: t) 2 = true) (kk : sj_G X S cl sl (a0 :: a1 :: some (.double x) :: none :: t) q rest) : sj_G X S cl sl (a0 :: a1 :: b :: b2 :: t) pc (.double x :: rest) := sj_dstore0 (i := 2) C q hq hd hn hok kk
theorem sj_dstore_n_3 {X : sj_X} {M : sj_M} (C : sj_C X M) {S : sj_St} {cl sl : Nat} {t : List (Option Value)} {a0 a1 a2 b b2 : Option Value} {pc : Nat} {rest : List Value} {x : UInt64} (q : Nat) (hq : pc + 1 = q) (hd : decode M.2.1 pc = .ok (.dstore_n 3, 1)) (hn : Nat.ble 5 M.2.2.1 = true) (hok : sj_okb (a0 :: a1 :: a2 :: b :: b2 :: t) 3 = true) (kk : sj_G X S cl sl (a0 :: a1 :: a2 :: some (.double x) :: none :: t) q rest) : sj_G X S cl sl (a0 :: a1 :: a2 :: b :: b2 :: t) pc (.double x :: rest) := sj_dstore_n0 (i := 3) C q hq hd rfl hn hok kk
theorem sj_dstore_3 {X : sj_X} {M : sj_M} (C : sj_C X M) {S : sj_St} {cl sl : Nat} {t : List (Option Value)} {a0 a1 a2 b b2 : Option Value} {pc : Nat} {rest : List Value} {x : UInt64} (q : Nat) (hq : pc + 2 = q) (hd : decode M.2.1 pc = .ok (.dstore 3, 2)) (hn : Nat.ble 5 M.2.2.1 = true) (hok : sj_okb (a0 :: a1 :: a2 :: b :: b2 :: t) 3 = true) (kk : sj_G X S cl sl (a0 :: a1 :: a2 :: some (.double x) :: none :: t) q rest) : sj_G X S cl sl (a0 :: a1 :: a2 :: b :: b2 :: t) pc (.double x :: rest) := sj_dstore0 (i := 3) C q hq hd hn hok kk
theorem sj_dstore_4 {X : sj_X} {M : sj_M} (C : sj_C X M) {S : sj_St} {cl sl : Nat} {t : List (Option Value)} {a0 a1 a2 a3 b b2 : Option Value} {pc : Nat} {rest : List Value} {x : UInt64} (q : Nat) (hq : pc + 2 = q) (hd : decode M.2.1 pc = .ok (.dstore 4, 2)) (hn : Nat.ble 6 M.2.2.1 = true) (hok : sj_okb (a0 :: a1 :: a2 :: a3 :: b :: b2 :: t) 4 = true) (kk : sj_G X S cl sl (a0 :: a1 :: a2 :: a3 :: some (.double x) :: none :: t) q rest) : sj_G X S cl sl (a0 :: a1 :: a2 :: a3 :: b :: b2 :: t) pc (.double x :: rest) := sj_dstore0 (i := 4) C q hq hd hn hok kk
theorem sj_dstore_5 {X : sj_X} {M : sj_M} (C : sj_C X M) {S : sj_St} {cl sl : Nat} {t : List (Option Value)} {a0 a1 a2 a3 a4 b b2 : Option Value} {pc : Nat} {rest : List Value} {x : UInt64} (q : Nat) (hq : pc + 2 = q) (hd : decode M.2.1 pc = .ok (.dstore 5, 2)) (hn : Nat.ble 7 M.2.2.1 = true) (hok : sj_okb (a0 :: a1 :: a2 :: a3 :: a4 :: b :: b2 :: t) 5 = true) (kk : sj_G X S cl sl (a0 :: a1 :: a2 :: a3 :: a4 :: some (.double x) :: none :: t) q rest) : sj_G X S cl sl (a0 :: a1 :: a2 :: a3 :: a4 :: b :: b2 :: t) pc (.double x :: rest) := sj_dstore0 (i := 5) C q hq hd hn hok kk
theorem sj_dstore_6 {X : sj_X} {M : sj_M} (C : sj_C X M) {S : sj_St} {cl sl : Nat} {t : List (Option Value)} {a0 a1 a2 a3 a4 a5 b b2 : Option Value} {pc : Nat} {rest : List Value} {x : UInt64} (q : Nat) (hq : pc + 2 = q) (hd : decode M.2.1 pc = .ok (.dstore 6, 2)) (hn : Nat.ble 8 M.2.2.1 = true) (hok : sj_okb (a0 :: a1 :: a2 :: a3 :: a4 :: a5 :: b :: b2 :: t) 6 = true) (kk : sj_G X S cl sl (a0 :: a1 :: a2 :: a3 :: a4 :: a5 :: some (.double x) :: none :: t) q rest) : sj_G X S cl sl (a0 :: a1 :: a2 :: a3 :: a4 :: a5 :: b :: b2 :: t) pc (.double x :: rest) := sj_dstore0 (i := 6) C q hq hd hn hok kk
theorem sj_dstore_7 {X : sj_X} {M : sj_M} (C : sj_C X M) {S : sj_St} {cl sl : Nat} {t : List (Option Value)} {a0 a1 a2 a3 a4 a5 a6 b b2 : Option Value} {pc : Nat} {rest : List Value} {x : UInt64} (q : Nat) (hq : pc + 2 = q) (hd : decode M.2.1 pc = .ok (.dstore 7, 2)) (hn : Nat.ble 9 M.2.2.1 = true) (hok : sj_okb (a0 :: a1 :: a2 :: a3 :: a4 :: a5 :: a6 :: b :: b2 :: t) 7 = true) (kk : sj_G X S cl sl (a0 :: a1 :: a2 :: a3 :: a4 :: a5 :: a6 :: some (.double x) :: none :: t) q rest) : sj_G X S cl sl (a0 :: a1 :: a2 :: a3 :: a4 :: a5 :: a6 :: b :: b2 :: t) pc (.double x :: rest) := sj_dstore0 (i := 7) C q hq hd hn hok kk
theorem sj_dstore_8 {X : sj_X} {M : sj_M} (C : sj_C X M) {S : sj_St} {cl sl : Nat} {t : List (Option Value)} {a0 a1 a2 a3 a4 a5 a6 a7 b b2 : Option Value} {pc : Nat} {rest : List Value} {x : UInt64} (q : Nat) (hq : pc + 2 = q) (hd : decode M.2.1 pc = .ok (.dstore 8, 2)) (hn : Nat.ble 10 M.2.2.1 = true) (hok : sj_okb (a0 :: a1 :: a2 :: a3 :: a4 :: a5 :: a6 :: a7 :: b :: b2 :: t) 8 = true) (kk : sj_G X S cl sl (a0 :: a1 :: a2 :: a3 :: a4 :: a5 :: a6 :: a7 :: some (.double x) :: none :: t) q rest) : sj_G X S cl sl (a0 :: a1 :: a2 :: a3 :: a4 :: a5 :: a6 :: a7 :: b :: b2 :: t) pc (.double x :: rest) := sj_dstore0 (i := 8) C q hq hd hn hok kk
theorem sj_dstore_9 {X : sj_X} {M : sj_M} (C : sj_C X M) {S : sj_St} {cl sl : Nat} {t : List (Option Value)} {a0 a1 a2 a3 a4 a5 a6 a7 a8 b b2 : Option Value} {pc : Nat} {rest : List Value} {x : UInt64} (q : Nat) (hq : pc + 2 = q) (hd : decode M.2.1 pc = .ok (.dstore 9, 2)) (hn : Nat.ble 11 M.2.2.1 = true) (hok : sj_okb (a0 :: a1 :: a2 :: a3 :: a4 :: a5 :: a6 :: a7 :: a8 :: b :: b2 :: t) 9 = true) (kk : sj_G X S cl sl (a0 :: a1 :: a2 :: a3 :: a4 :: a5 :: a6 :: a7 :: a8 :: some (.double x) :: none :: t) q rest) : sj_G X S cl sl (a0 :: a1 :: a2 :: a3 :: a4 :: a5 :: a6 :: a7 :: a8 :: b :: b2 :: t) pc (.double x :: rest) := sj_dstore0 (i := 9) C q hq hd hn hok kk
theorem sj_dstore_10 {X : sj_X} {M : sj_M} (C : sj_C X M) {S : sj_St} {cl sl : Nat} {t : List (Option Value)} {a0 a1 a2 a3 a4 a5 a6 a7 a8 a9 b b2 : Option Value} {pc : Nat} {rest : List Value} {x : UInt64} (q : Nat) (hq : pc + 2 = q) (hd : decode M.2.1 pc = .ok (.dstore 10, 2)) (hn : Nat.ble 12 M.2.2.1 = true) (hok : sj_okb (a0 :: a1 :: a2 :: a3 :: a4 :: a5 :: a6 :: a7 :: a8 :: a9 :: b :: b2 :: t) 10 = true) (kk : sj_G X S cl sl (a0 :: a1 :: a2 :: a3 :: a4 :: a5 :: a6 :: a7 :: a8 :: a9 :: some (.double x) :: none :: t) q rest) : sj_G X S cl sl (a0 :: a1 :: a2 :: a3 :: a4 :: a5 :: a6 :: a7 :: a8 :: a9 :: b :: b2 :: t) pc (.double x :: rest) := sj_dstore0 (i := 10) C q hq hd hn hok kk
theorem sj_dstore_11 {X : sj_X} {M : sj_M} (C : sj_C X M) {S : sj_St} {cl sl : Nat} {t : List (Option Value)} {a0 a1 a2 a3 a4 a5 a6 a7 a8 a9 a10 b b2 : Option Value} {pc : Nat} {rest : List Value} {x : UInt64} (q : Nat) (hq : pc + 2 = q) (hd : decode M.2.1 pc = .ok (.dstore 11, 2)) (hn : Nat.ble 13 M.2.2.1 = true) (hok : sj_okb (a0 :: a1 :: a2 :: a3 :: a4 :: a5 :: a6 :: a7 :: a8 :: a9 :: a10 :: b :: b2 :: t) 11 = true) (kk : sj_G X S cl sl (a0 :: a1 :: a2 :: a3 :: a4 :: a5 :: a6 :: a7 :: a8 :: a9 :: a10 :: some (.double x) :: none :: t) q rest) : sj_G X S cl sl (a0 :: a1 :: a2 :: a3 :: a4 :: a5 :: a6 :: a7 :: a8 :: a9 :: a10 :: b :: b2 :: t) pc (.double x :: rest) := sj_dstore0 (i := 11) C q hq hd hn hok kk
theorem sj_iinc_0 {X : sj_X} {M : sj_M} (C : sj_C X M) {S : sj_St} {cl sl : Nat} {t : List (Option Value)} {pc : Nat} {rest : List Value} {n : Int} {x : Int32} (q : Nat) (hq : pc + 3 = q) (hd : decode M.2.1 pc = .ok (.iinc 0 n, 3)) (hn : Nat.ble 1 M.2.2.1 = true) (hok : sj_okb (some (.int x) :: t) 0 = true) (kk : sj_G X S cl sl (some (.int (x + Int32.ofInt n)) :: t) q rest) : sj_G X S cl sl (some (.int x) :: t) pc rest := sj_iinc0 (i := 0) C q hq hd hn hok rfl kk
theorem sj_iinc_1 {X : sj_X} {M : sj_M} (C : sj_C X M) {S : sj_St} {cl sl : Nat} {t : List (Option Value)} {a0 : Option Value} {pc : Nat} {rest : List Value} {n : Int} {x : Int32} (q : Nat) (hq : pc + 3 = q) (hd : decode M.2.1 pc = .ok (.iinc 1 n, 3)) (hn : Nat.ble 2 M.2.2.1 = true) (hok : sj_okb (a0 :: some (.int x) :: t) 1 = true) (kk : sj_G X S cl sl (a0 :: some (.int (x + Int32.ofInt n)) :: t) q rest) : sj_G X S cl sl (a0 :: some (.int x) :: t) pc rest := sj_iinc0 (i := 1) C q hq hd hn hok rfl kk
theorem sj_iinc_2 {X : sj_X} {M : sj_M} (C : sj_C X M) {S : sj_St} {cl sl : Nat} {t : List (Option Value)} {a0 a1 : Option Value} {pc : Nat} {rest : List Value} {n : Int} {x : Int32} (q : Nat) (hq : pc + 3 = q) (hd : decode M.2.1 pc = .ok (.iinc 2 n, 3)) (hn : Nat.ble 3 M.2.2.1 = true) (hok : sj_okb (a0 :: a1 :: some (.int x) :: t) 2 = true) (kk : sj_G X S cl sl (a0 :: a1 :: some (.int (x + Int32.ofInt n)) :: t) q rest) : sj_G X S cl sl (a0 :: a1 :: some (.int x) :: t) pc rest := sj_iinc0 (i := 2) C q hq hd hn hok rfl kk
theorem sj_iinc_3 {X : sj_X} {M : sj_M} (C : sj_C X M) {S : sj_St} {cl sl : Nat} {t : List (Option Value)} {a0 a1 a2 : Option Value} {pc : Nat} {rest : List Value} {n : Int} {x : Int32} (q : Nat) (hq : pc + 3 = q) (hd : decode M.2.1 pc = .ok (.iinc 3 n, 3)) (hn : Nat.ble 4 M.2.2.1 = true) (hok : sj_okb (a0 :: a1 :: a2 :: some (.int x) :: t) 3 = true) (kk : sj_G X S cl sl (a0 :: a1 :: a2 :: some (.int (x + Int32.ofInt n)) :: t) q rest) : sj_G X S cl sl (a0 :: a1 :: a2 :: some (.int x) :: t) pc rest := sj_iinc0 (i := 3) C q hq hd hn hok rfl kk
theorem sj_iinc_4 {X : sj_X} {M : sj_M} (C : sj_C X M) {S : sj_St} {cl sl : Nat} {t : List (Option Value)} {a0 a1 a2 a3 : Option Value} {pc : Nat} {rest : List Value} {n : Int} {x : Int32} (q : Nat) (hq : pc + 3 = q) (hd : decode M.2.1 pc = .ok (.iinc 4 n, 3)) (hn : Nat.ble 5 M.2.2.1 = true) (hok : sj_okb (a0 :: a1 :: a2 :: a3 :: some (.int x) :: t) 4 = true) (kk : sj_G X S cl sl (a0 :: a1 :: a2 :: a3 :: some (.int (x + Int32.ofInt n)) :: t) q rest) : sj_G X S cl sl (a0 :: a1 :: a2 :: a3 :: some (.int x) :: t) pc rest := sj_iinc0 (i := 4) C q hq hd hn hok rfl kk
theorem sj_iinc_5 {X : sj_X} {M : sj_M} (C : sj_C X M) {S : sj_St} {cl sl : Nat} {t : List (Option Value)} {a0 a1 a2 a3 a4 : Option Value} {pc : Nat} {rest : List Value} {n : Int} {x : Int32} (q : Nat) (hq : pc + 3 = q) (hd : decode M.2.1 pc = .ok (.iinc 5 n, 3)) (hn : Nat.ble 6 M.2.2.1 = true) (hok : sj_okb (a0 :: a1 :: a2 :: a3 :: a4 :: some (.int x) :: t) 5 = true) (kk : sj_G X S cl sl (a0 :: a1 :: a2 :: a3 :: a4 :: some (.int (x + Int32.ofInt n)) :: t) q rest) : sj_G X S cl sl (a0 :: a1 :: a2 :: a3 :: a4 :: some (.int x) :: t) pc rest := sj_iinc0 (i := 5) C q hq hd hn hok rfl kk
theorem sj_iinc_6 {X : sj_X} {M : sj_M} (C : sj_C X M) {S : sj_St} {cl sl : Nat} {t : List (Option Value)} {a0 a1 a2 a3 a4 a5 : Option Value} {pc : Nat} {rest : List Value} {n : Int} {x : Int32} (q : Nat) (hq : pc + 3 = q) (hd : decode M.2.1 pc = .ok (.iinc 6 n, 3)) (hn : Nat.ble 7 M.2.2.1 = true) (hok : sj_okb (a0 :: a1 :: a2 :: a3 :: a4 :: a5 :: some (.int x) :: t) 6 = true) (kk : sj_G X S cl sl (a0 :: a1 :: a2 :: a3 :: a4 :: a5 :: some (.int (x + Int32.ofInt n)) :: t) q rest) : sj_G X S cl sl (a0 :: a1 :: a2 :: a3 :: a4 :: a5 :: some (.int x) :: t) pc rest := sj_iinc0 (i := 6) C q hq hd hn hok rfl kk
theorem sj_iinc_7 {X : sj_X} {M : sj_M} (C : sj_C X M) {S : sj_St} {cl sl : Nat} {t : List (Option Value)} {a0 a1 a2 a3 a4 a5 a6 : Option Value} {pc : Nat} {rest : List Value} {n : Int} {x : Int32} (q : Nat) (hq : pc + 3 = q) (hd : decode M.2.1 pc = .ok (.iinc 7 n, 3)) (hn : Nat.ble 8 M.2.2.1 = true) (hok : sj_okb (a0 :: a1 :: a2 :: a3 :: a4 :: a5 :: a6 :: some (.int x) :: t) 7 = true) (kk : sj_G X S cl sl (a0 :: a1 :: a2 :: a3 :: a4 :: a5 :: a6 :: some (.int (x + Int32.ofInt n)) :: t) q rest) : sj_G X S cl sl (a0 :: a1 :: a2 :: a3 :: a4 :: a5 :: a6 :: some (.int x) :: t) pc rest := sj_iinc0 (i := 7) C q hq hd hn hok rfl kk
theorem sj_iinc_8 {X : sj_X} {M : sj_M} (C : sj_C X M) {S : sj_St} {cl sl : Nat} {t : List (Option Value)} {a0 a1 a2 a3 a4 a5 a6 a7 : Option Value} {pc : Nat} {rest : List Value} {n : Int} {x : Int32} (q : Nat) (hq : pc + 3 = q) (hd : decode M.2.1 pc = .ok (.iinc 8 n, 3)) (hn : Nat.ble 9 M.2.2.1 = true) (hok : sj_okb (a0 :: a1 :: a2 :: a3 :: a4 :: a5 :: a6 :: a7 :: some (.int x) :: t) 8 = true) (kk : sj_G X S cl sl (a0 :: a1 :: a2 :: a3 :: a4 :: a5 :: a6 :: a7 :: some (.int (x + Int32.ofInt n)) :: t) q rest) : sj_G X S cl sl (a0 :: a1 :: a2 :: a3 :: a4 :: a5 :: a6 :: a7 :: some (.int x) :: t) pc rest := sj_iinc0 (i := 8) C q hq hd hn hok rfl kk
theorem sj_iinc_9 {X : sj_X} {M : sj_M} (C : sj_C X M) {S : sj_St} {cl sl : Nat} {t : List (Option Value)} {a0 a1 a2 a3 a4 a5 a6 a7 a8 : Option Value} {pc : Nat} {rest : List Value} {n : Int} {x : Int32} (q : Nat) (hq : pc + 3 = q) (hd : decode M.2.1 pc = .ok (.iinc 9 n, 3)) (hn : Nat.ble 10 M.2.2.1 = true) (hok : sj_okb (a0 :: a1 :: a2 :: a3 :: a4 :: a5 :: a6 :: a7 :: a8 :: some (.int x) :: t) 9 = true) (kk : sj_G X S cl sl (a0 :: a1 :: a2 :: a3 :: a4 :: a5 :: a6 :: a7 :: a8 :: some (.int (x + Int32.ofInt n)) :: t) q rest) : sj_G X S cl sl (a0 :: a1 :: a2 :: a3 :: a4 :: a5 :: a6 :: a7 :: a8 :: some (.int x) :: t) pc rest := sj_iinc0 (i := 9) C q hq hd hn hok rfl kk
theorem sj_iinc_10 {X : sj_X} {M : sj_M} (C : sj_C X M) {S : sj_St} {cl sl : Nat} {t : List (Option Value)} {a0 a1 a2 a3 a4 a5 a6 a7 a8 a9 : Option Value} {pc : Nat} {rest : List Value} {n : Int} {x : Int32} (q : Nat) (hq : pc + 3 = q) (hd : decode M.2.1 pc = .ok (.iinc 10 n, 3)) (hn : Nat.ble 11 M.2.2.1 = true) (hok : sj_okb (a0 :: a1 :: a2 :: a3 :: a4 :: a5 :: a6 :: a7 :: a8 :: a9 :: some (.int x) :: t) 10 = true) (kk : sj_G X S cl sl (a0 :: a1 :: a2 :: a3 :: a4 :: a5 :: a6 :: a7 :: a8 :: a9 :: some (.int (x + Int32.ofInt n)) :: t) q rest) : sj_G X S cl sl (a0 :: a1 :: a2 :: a3 :: a4 :: a5 :: a6 :: a7 :: a8 :: a9 :: some (.int x) :: t) pc rest := sj_iinc0 (i := 10) C q hq hd hn hok rfl kk
theorem sj_iinc_11 {X : sj_X} {M : sj_M} (C : sj_C X M) {S : sj_St} {cl sl : Nat} {t : List (Option Value)} {a0 a1 a2 a3 a4 a5 a6 a7 a8 a9 a10 : Option Value} {pc : Nat} {rest : List Value} {n : Int} {x : Int32} (q : Nat) (hq : pc + 3 = q) (hd : decode M.2.1 pc = .ok (.iinc 11 n, 3)) (hn : Nat.ble 12 M.2.2.1 = true) (hok : sj_okb (a0 :: a1 :: a2 :: a3 :: a4 :: a5 :: a6 :: a7 :: a8 :: a9 :: a10 :: some (.int x) :: t) 11 = true) (kk : sj_G X S cl sl (a0 :: a1 :: a2 :: a3 :: a4 :: a5 :: a6 :: a7 :: a8 :: a9 :: a10 :: some (.int (x + Int32.ofInt n)) :: t) q rest) : sj_G X S cl sl (a0 :: a1 :: a2 :: a3 :: a4 :: a5 :: a6 :: a7 :: a8 :: a9 :: a10 :: some (.int x) :: t) pc rest := sj_iinc0 (i := 11) C q hq hd hn hok rfl kk
theorem sj_icmp_eq {X : sj_X} {M : sj_M} (C : sj_C X M) {S : sj_St} {cl sl : Nat} {L : List (Option Value)} {pc : Nat} {rest : List Value} {x y : Int32} {off : Int} (tgt q : Nat) (hq : pc + 3 = q) (ht : (pc : Int) + off = (tgt : Int)) (hd : decode M.2.1 pc = .ok (.if_icmp .eq off, 3)) (kt : x = y → sj_G X S cl sl L tgt rest) (kf : ¬ x = y → sj_G X S cl sl L q rest) : sj_G X S cl sl L pc (.int y :: .int x :: rest) := by
  obtain ⟨p, l, e, R, s, m, args, below, meth, c, D, cy, A, nL, Q⟩ := X
  obtain ⟨ym, cc, nL0, ret, fr, lo, mc, ms⟩ := M
  obtain ⟨hx, hb, ⟨hml, hnL⟩, hown, hts, ⟨hlk, hret, hnm⟩, hK, hAm, hA, hRR⟩ := C
  subst hq
  intro H locs ls h1 h2 h3
  exact lv_icmp_eq hx hb hd ht (fun h => kt h H locs ls h1 h2 h3) (fun h => kf h H locs ls h1 h2 h3)
theorem sj_icmp_ne {X : sj_X} {M : sj_M} (C : sj_C X M) {S : sj_St} {cl sl : Nat} {L : List (Option Value)} {pc : Nat} {rest : List Value} {x y : Int32} {off : Int} (tgt q : Nat) (hq : pc + 3 = q) (ht : (pc : Int) + off = (tgt : Int)) (hd : decode M.2.1 pc = .ok (.if_icmp .ne off, 3)) (kt : ¬ x = y → sj_G X S cl sl L tgt rest) (kf : x = y → sj_G X S cl sl L q rest) : sj_G X S cl sl L pc (.int y :: .int x :: rest) := by
  obtain ⟨p, l, e, R, s, m, args, below, meth, c, D, cy, A, nL, Q⟩ := X
  obtain ⟨ym, cc, nL0, ret, fr, lo, mc, ms⟩ := M
  obtain ⟨hx, hb, ⟨hml, hnL⟩, hown, hts, ⟨hlk, hret, hnm⟩, hK, hAm, hA, hRR⟩ := C
  subst hq
  intro H locs ls h1 h2 h3
  exact lv_icmp_ne hx hb hd ht (fun h => kt h H locs ls h1 h2 h3) (fun h => kf h H locs ls h1 h2 h3)
theorem sj_icmp_lt {X : sj_X} {M : sj_M} (C : sj_C X M) {S : sj_St} {cl sl : Nat} {L : List (Option Value)} {pc : Nat} {rest : List Value} {x y : Int32} {off : Int} (tgt q : Nat) (hq : pc + 3 = q) (ht : (pc : Int) + off = (tgt : Int)) (hd : decode M.2.1 pc = .ok (.if_icmp .lt off, 3)) (kt : x < y → sj_G X S cl sl L tgt rest) (kf : ¬ x < y → sj_G X S cl sl L q rest) : sj_G X S cl sl L pc (.int y :: .int x :: rest) := by
  obtain ⟨p, l, e, R, s, m, args, below, meth, c, D, cy, A, nL, Q⟩ := X
  obtain ⟨ym, cc, nL0, ret, fr, lo, mc, ms⟩ := M
  obtain ⟨hx, hb, ⟨hml, hnL⟩, hown, hts, ⟨hlk, hret, hnm⟩, hK, hAm, hA, hRR⟩ := C
  subst hq
  intro H locs ls h1 h2 h3
  exact lv_icmp_lt hx hb hd ht (fun h => kt h H locs ls h1 h2 h3) (fun h => kf h H locs ls h1 h2 h3)
theorem sj_icmp_ge {X : sj_X} {M : sj_M} (C : sj_C X M) {S : sj_St} {cl sl : Nat} {L : List (Option Value)} {pc : Nat} {rest : List Value} {x y : Int32} {off : Int} (tgt q : Nat) (hq : pc + 3 = q) (ht : (pc : Int) + off = (tgt : Int)) (hd : decode M.2.1 pc = .ok (.if_icmp .ge off, 3)) (kt : y ≤ x → sj_G X S cl sl L tgt rest) (kf : ¬ y ≤ x → sj_G X S cl sl L q rest) : sj_G X S cl sl L pc (.int y :: .int x :: rest) := by
  obtain ⟨p, l, e, R, s, m, args, below, meth, c, D, cy, A, nL, Q⟩ := X
  obtain ⟨ym, cc, nL0, ret, fr, lo, mc, ms⟩ := M
  obtain ⟨hx, hb, ⟨hml, hnL⟩, hown, hts, ⟨hlk, hret, hnm⟩, hK, hAm, hA, hRR⟩ := C
  subst hq
  intro H locs ls h1 h2 h3
  exact lv_icmp_ge hx hb hd ht (fun h => kt h H locs ls h1 h2 h3) (fun h => kf h H locs ls h1 h2 h3)
theorem sj_icmp_gt {X : sj_X} {M : sj_M} (C : sj_C X M) {S : sj_St} {cl sl : Nat} {L : List (Option Value)} {pc : Nat} {rest : List Value} {x y : Int32} {off : Int} (tgt q : Nat) (hq : pc + 3 = q) (ht : (pc : Int) + off = (tgt : Int)) (hd : decode M.2.1 pc = .ok (.if_icmp .gt off, 3)) (kt : y < x → sj_G X S cl sl L tgt rest) (kf : ¬ y < x → sj_G X S cl sl L q rest) : sj_G X S cl sl L pc (.int y :: .int x :: rest) := by
  obtain ⟨p, l, e, R, s, m, args, below, meth, c, D, cy, A, nL, Q⟩ := X
  obtain ⟨ym, cc, nL0, ret, fr, lo, mc, ms⟩ := M
  obtain ⟨hx, hb, ⟨hml, hnL⟩, hown, hts, ⟨hlk, hret, hnm⟩, hK, hAm, hA, hRR⟩ := C
  subst hq
  intro H locs ls h1 h2 h3
  exact lv_icmp_gt hx hb hd ht (fun h => kt h H locs ls h1 h2 h3) (fun h => kf h H locs ls h1 h2 h3)
theorem sj_icmp_le {X : sj_X} {M : sj_M} (C : sj_C X M) {S : sj_St} {cl sl : Nat} {L : List (Option Value)} {pc : Nat} {rest : List Value} {x y : Int32} {off : Int} (tgt q : Nat) (hq : pc + 3 = q) (ht : (pc : Int) + off = (tgt : Int)) (hd : decode M.2.1 pc = .ok (.if_icmp .le off, 3)) (kt : x ≤ y → sj_G X S cl sl L tgt rest) (kf : ¬ x ≤ y → sj_G X S cl sl L q rest) : sj_G X S cl sl L pc (.int y :: .int x :: rest) := by
  obtain ⟨p, l, e, R, s, m, args, below, meth, c, D, cy, A, nL, Q⟩ := X
  obtain ⟨ym, cc, nL0, ret, fr, lo, mc, ms⟩ := M
  obtain ⟨hx, hb, ⟨hml, hnL⟩, hown, hts, ⟨hlk, hret, hnm⟩, hK, hAm, hA, hRR⟩ := C
  subst hq
  intro H locs ls h1 h2 h3
  exact lv_icmp_le hx hb hd ht (fun h => kt h H locs ls h1 h2 h3) (fun h => kf h H locs ls h1 h2 h3)
theorem sj_if_eq {X : sj_X} {M : sj_M} (C : sj_C X M) {S : sj_St} {cl sl : Nat} {L : List (Option Value)} {pc : Nat} {rest : List Value} {x : Int32} {off : Int} (tgt q : Nat) (hq : pc + 3 = q) (ht : (pc : Int) + off = (tgt : Int)) (hd : decode M.2.1 pc = .ok (.ifCond .eq off, 3)) (kt : x = 0 → sj_G X S cl sl L tgt rest) (kf : ¬ x = 0 → sj_G X S cl sl L q rest) : sj_G X S cl sl L pc (.int x :: rest) := by
  obtain ⟨p, l, e, R, s, m, args, below, meth, c, D, cy, A, nL, Q⟩ := X
  obtain ⟨ym, cc, nL0, ret, fr, lo, mc, ms⟩ := M
  obtain ⟨hx, hb, ⟨hml, hnL⟩, hown, hts, ⟨hlk, hret, hnm⟩, hK, hAm, hA, hRR⟩ := C
  subst hq
  intro H locs ls h1 h2 h3
  exact lv_if_eq hx hb hd ht (fun h => kt h H locs ls h1 h2 h3) (fun h => kf h H locs ls h1 h2 h3)
theorem sj_if_ne {X : sj_X} {M : sj_M} (C : sj_C X M) {S : sj_St} {cl sl : Nat} {L : List (Option Value)} {pc : Nat} {rest : List Value} {x : Int32} {off : Int} (tgt q : Nat) (hq : pc + 3 = q) (ht : (pc : Int) + off = (tgt : Int)) (hd : decode M.2.1 pc = .ok (.ifCond .ne off, 3)) (kt : ¬ x = 0 → sj_G X S cl sl L tgt rest) (kf : x = 0 → sj_G X S cl sl L q rest) : sj_G X S cl sl L pc (.int x :: rest) := by
  obtain ⟨p, l, e, R, s, m, args, below, meth, c, D, cy, A, nL, Q⟩ := X
  obtain ⟨ym, cc, nL0, ret, fr, lo, mc, ms⟩ := M
  obtain ⟨hx, hb, ⟨hml, hnL⟩, hown, hts, ⟨hlk, hret, hnm⟩, hK, hAm, hA, hRR⟩ := C
  subst hq
  intro H locs ls h1 h2 h3
  exact lv_if_ne hx hb hd ht (fun h => kt h H locs ls h1 h2 h3) (fun h => kf h H locs ls h1 h2 h3)
theorem sj_if_lt {X : sj_X} {M : sj_M} (C : sj_C X M) {S : sj_St} {cl sl : Nat} {L : List (Option Value)} {pc : Nat} {rest : List Value} {x : Int32} {off : Int} (tgt q : Nat) (hq : pc + 3 = q) (ht : (pc : Int) + off = (tgt : Int)) (hd : decode M.2.1 pc = .ok (.ifCond .lt off, 3)) (kt : x < 0 → sj_G X S cl sl L tgt rest) (kf : ¬ x < 0 → sj_G X S cl sl L q rest) : sj_G X S cl sl L pc (.int x :: rest) := by
  obtain ⟨p, l, e, R, s, m, args, below, meth, c, D, cy, A, nL, Q⟩ := X
  obtain ⟨ym, cc, nL0, ret, fr, lo, mc, ms⟩ := M
  obtain ⟨hx, hb, ⟨hml, hnL⟩, hown, hts, ⟨hlk, hret, hnm⟩, hK, hAm, hA, hRR⟩ := C
  subst hq
  intro H locs ls h1 h2 h3
  exact lv_if_lt hx hb hd ht (fun h => kt h H locs ls h1 h2 h3) (fun h => kf h H locs ls h1 h2 h3)
theorem sj_if_ge {X : sj_X} {M : sj_M} (C : sj_C X M) {S : sj_St} {cl sl : Nat} {L : List (Option Value)} {pc : Nat} {rest : List Value} {x : Int32} {off : Int} (tgt q : Nat) (hq : pc + 3 = q) (ht : (pc : Int) + off = (tgt : Int)) (hd : decode M.2.1 pc = .ok (.ifCond .ge off, 3)) (kt : 0 ≤ x → sj_G X S cl sl L tgt rest) (kf : ¬ 0 ≤ x → sj_G X S cl sl L q rest) : sj_G X S cl sl L pc (.int x :: rest) := by
  obtain ⟨p, l, e, R, s, m, args, below, meth, c, D, cy, A, nL, Q⟩ := X
  obtain ⟨ym, cc, nL0, ret, fr, lo, mc, ms⟩ := M
  obtain ⟨hx, hb, ⟨hml, hnL⟩, hown, hts, ⟨hlk, hret, hnm⟩, hK, hAm, hA, hRR⟩ := C
  subst hq
  intro H locs ls h1 h2 h3
  exact lv_if_ge hx hb hd ht (fun h => kt h H locs ls h1 h2 h3) (fun h => kf h H locs ls h1 h2 h3)
theorem sj_if_gt {X : sj_X} {M : sj_M} (C : sj_C X M) {S : sj_St} {cl sl : Nat} {L : List (Option Value)} {pc : Nat} {rest : List Value} {x : Int32} {off : Int} (tgt q : Nat) (hq : pc + 3 = q) (ht : (pc : Int) + off = (tgt : Int)) (hd : decode M.2.1 pc = .ok (.ifCond .gt off, 3)) (kt : 0 < x → sj_G X S cl sl L tgt rest) (kf : ¬ 0 < x → sj_G X S cl sl L q rest) : sj_G X S cl sl L pc (.int x :: rest) := by
  obtain ⟨p, l, e, R, s, m, args, below, meth, c, D, cy, A, nL, Q⟩ := X
  obtain ⟨ym, cc, nL0, ret, fr, lo, mc, ms⟩ := M
  obtain ⟨hx, hb, ⟨hml, hnL⟩, hown, hts, ⟨hlk, hret, hnm⟩, hK, hAm, hA, hRR⟩ := C
  subst hq
  intro H locs ls h1 h2 h3
  exact lv_if_gt hx hb hd ht (fun h => kt h H locs ls h1 h2 h3) (fun h => kf h H locs ls h1 h2 h3)
theorem sj_if_le {X : sj_X} {M : sj_M} (C : sj_C X M) {S : sj_St} {cl sl : Nat} {L : List (Option Value)} {pc : Nat} {rest : List Value} {x : Int32} {off : Int} (tgt q : Nat) (hq : pc + 3 = q) (ht : (pc : Int) + off = (tgt : Int)) (hd : decode M.2.1 pc = .ok (.ifCond .le off, 3)) (kt : x ≤ 0 → sj_G X S cl sl L tgt rest) (kf : ¬ x ≤ 0 → sj_G X S cl sl L q rest) : sj_G X S cl sl L pc (.int x :: rest) := by
  obtain ⟨p, l, e, R, s, m, args, below, meth, c, D, cy, A, nL, Q⟩ := X
  obtain ⟨ym, cc, nL0, ret, fr, lo, mc, ms⟩ := M
  obtain ⟨hx, hb, ⟨hml, hnL⟩, hown, hts, ⟨hlk, hret, hnm⟩, hK, hAm, hA, hRR⟩ := C
  subst hq
  intro H locs ls h1 h2 h3
  exact lv_if_le hx hb hd ht (fun h => kt h H locs ls h1 h2 h3) (fun h => kf h H locs ls h1 h2 h3)
theorem sj_goto {X : sj_X} {M : sj_M} (C : sj_C X M) {S : sj_St} {cl sl : Nat} {L : List (Option Value)} {pc : Nat} {rest : List Value} {off : Int} (tgt : Nat) (ht : (pc : Int) + off = (tgt : Int)) (hd : decode M.2.1 pc = .ok (.goto off, 3)) (k : sj_G X S cl sl L tgt rest) : sj_G X S cl sl L pc rest := by
  obtain ⟨p, l, e, R, s, m, args, below, meth, c, D, cy, A, nL, Q⟩ := X
  obtain ⟨ym, cc, nL0, ret, fr, lo, mc, ms⟩ := M
  obtain ⟨hx, hb, ⟨hml, hnL⟩, hown, hts, ⟨hlk, hret, hnm⟩, hK, hAm, hA, hRR⟩ := C
  intro H locs ls h1 h2 h3
  exact lv_goto hx hb hd ht (k H locs ls h1 h2 h3)
theorem sj_ifnonnullS {X : sj_X} {M : sj_M} (C : sj_C X M) {S : sj_St} {cl sl : Nat} {L : List (Option Value)} {pc : Nat} {rest : List Value} {off : Int} {a : Nat} (tgt : Nat) (ht : (pc : Int) + off = (tgt : Int)) (hd : decode M.2.1 pc = .ok (.ifnonnull off, 3)) (k : sj_G X S cl sl L tgt rest) : sj_G X S cl sl L pc (.ref a :: rest) := by
  obtain ⟨p, l, e, R, s, m, args, below, meth, c, D, cy, A, nL, Q⟩ := X
  obtain ⟨ym, cc, nL0, ret, fr, lo, mc, ms⟩ := M
  obtain ⟨hx, hb, ⟨hml, hnL⟩, hown, hts, ⟨hlk, hret, hnm⟩, hK, hAm, hA, hRR⟩ := C
  intro H locs ls h1 h2 h3
  exact lv_ifnonnull hx hb hd ht (k H locs ls h1 h2 h3)
theorem sj_ifnullS {X : sj_X} {M : sj_M} (C : sj_C X M) {S : sj_St} {cl sl : Nat} {L : List (Option Value)} {pc : Nat} {rest : List Value} {off : Int} {a : Nat} (q : Nat) (hq : pc + 3 = q) (hd : decode M.2.1 pc = .ok (.ifnull off, 3)) (k : sj_G X S cl sl L q rest) : sj_G X S cl sl L pc (.ref a :: rest) := by
  obtain ⟨p, l, e, R, s, m, args, below, meth, c, D, cy, A, nL, Q⟩ := X
  obtain ⟨ym, cc, nL0, ret, fr, lo, mc, ms⟩ := M
  obtain ⟨hx, hb, ⟨hml, hnL⟩, hown, hts, ⟨hlk, hret, hnm⟩, hK, hAm, hA, hRR⟩ := C
  subst hq
  intro H locs ls h1 h2 h3
  exact lv_ifnull hx hb hd (k H locs ls h1 h2 h3)
theorem sj_ifnonnull {X : sj_X} {M : sj_M} (C : sj_C X M) {S : sj_St} {cl sl : Nat} {L : List (Option Value)} {pc : Nat} {rest : List Value} {off : Int} {o : Option Nat} (tgt q : Nat) (hq : pc + 3 = q) (ht : (pc : Int) + off = (tgt : Int)) (hd : decode M.2.1 pc = .ok (.ifnonnull off, 3)) (kt : ∀ a, o = some a → sj_G X S cl sl L tgt rest) (kf : o = none → sj_G X S cl sl L q rest) : sj_G X S cl sl L pc (va_rf o :: rest) := by
  obtain ⟨p, l, e, R, s, m, args, below, meth, c, D, cy, A, nL, Q⟩ := X
  obtain ⟨ym, cc, nL0, ret, fr, lo, mc, ms⟩ := M
  obtain ⟨hx, hb, ⟨hml, hnL⟩, hown, hts, ⟨hlk, hret, hnm⟩, hK, hAm, hA, hRR⟩ := C
  subst hq
  intro H locs ls h1 h2 h3
  cases o with
  | some a => exact lv_ifnonnull hx hb hd ht (kt a rfl H locs ls h1 h2 h3)
  | none => exact lv_ifnonnullN hx hb hd (kf rfl H locs ls h1 h2 h3)
theorem sj_ifnull {X : sj_X} {M : sj_M} (C : sj_C X M) {S : sj_St} {cl sl : Nat} {L : List (Option Value)} {pc : Nat} {rest : List Value} {off : Int} {o : Option Nat} (tgt q : Nat) (hq : pc + 3 = q) (ht : (pc : Int) + off = (tgt : Int)) (hd : decode M.2.1 pc = .ok (.ifnull off, 3)) (kt : o = none → sj_G X S cl sl L tgt rest) (kf : ∀ a, o = some a → sj_G X S cl sl L q rest) : sj_G X S cl sl L pc (va_rf o :: rest) := by
  obtain ⟨p, l, e, R, s, m, args, below, meth, c, D, cy, A, nL, Q⟩ := X
  obtain ⟨ym, cc, nL0, ret, fr, lo, mc, ms⟩ := M
  obtain ⟨hx, hb, ⟨hml, hnL⟩, hown, hts, ⟨hlk, hret, hnm⟩, hK, hAm, hA, hRR⟩ := C
  subst hq
  intro H locs ls h1 h2 h3
  cases o with
  | some a => exact lv_ifnull hx hb hd (kf a rfl H locs ls h1 h2 h3)
  | none => exact lv_ifnullN hx hb hd ht (kt rfl H locs ls h1 h2 h3)
theorem sj_tableIn {X : sj_X} {M : sj_M} (C : sj_C X M) {S : sj_St} {cl sl : Nat} {L : List (Option Value)} {pc : Nat} {rest : List Value} {dflt lo hi : Int} {offs : Array Int} {len : Nat} {x : Int32} {off : Int} (tgt : Nat) (hd : decode M.2.1 pc = .ok (.tableswitch dflt lo hi offs, len)) (h1 : ¬ x.toInt < lo) (h2 : ¬ hi < x.toInt) (ho : offs[(x.toInt - lo).toNat]? = some off) (ht : (pc : Int) + off = (tgt : Int)) (k : sj_G X S cl sl L tgt rest) : sj_G X S cl sl L pc (.int x :: rest) := by
  obtain ⟨p, l, e, R, s, m, args, below, meth, c, D, cy, A, nL, Q⟩ := X
  obtain ⟨ym, cc, nL0, ret, fr, lo9, mc, ms⟩ := M
  obtain ⟨hx, hb, ⟨hml, hnL⟩, hown, hts, ⟨hlk, hret, hnm⟩, hK, hAm, hA, hRR⟩ := C
  intro H locs ls g1 g2 g3
  exact lv_tableIn hx hb hd h1 h2 ho ht (k H locs ls g1 g2 g3)
theorem sj_tableOut {X : sj_X} {M : sj_M} (C : sj_C X M) {S : sj_St} {cl sl : Nat} {L : List (Option Value)} {pc : Nat} {rest : List Value} {dflt lo hi : Int} {offs : Array Int} {len : Nat} {x : Int32} (tgt : Nat) (hd : decode M.2.1 pc = .ok (.tableswitch dflt lo hi offs, len)) (h : x.toInt < lo ∨ hi < x.toInt) (ht : (pc : Int) + dflt = (tgt : Int)) (k : sj_G X S cl sl L tgt rest) : sj_G X S cl sl L pc (.int x :: rest) := by
  obtain ⟨p, l, e, R, s, m, args, below, meth, c, D, cy, A, nL, Q⟩ := X
  obtain ⟨ym, cc, nL0, ret, fr, lo9, mc, ms⟩ := M
  obtain ⟨hx, hb, ⟨hml, hnL⟩, hown, hts, ⟨hlk, hret, hnm⟩, hK, hAm, hA, hRR⟩ := C
  intro H locs ls g1 g2 g3
  exact lv_tableOut hx hb hd h ht (k H locs ls g1 g2 g3)
theorem sj_lookup {X : sj_X} {M : sj_M} (C : sj_C X M) {S : sj_St} {cl sl : Nat} {L : List (Option Value)} {pc : Nat} {rest : List Value} {dflt : Int} {ps : Array (Int × Int)} {len : Nat} {x : Int32} {off : Int} (tgt : Nat) (hd : decode M.2.1 pc = .ok (.lookupswitch dflt ps, len)) (hp : (ps.toList.zip (ps.toList.drop 1)).all (fun (a, next) => a.1 < next.1) = true) (ho : Op.lookupswitch.offset ps.toList dflt x.toInt = off) (ht : (pc : Int) + off = (tgt : Int)) (k : sj_G X S cl sl L tgt rest) : sj_G X S cl sl L pc (.int x :: rest) := by
  obtain ⟨p, l, e, R, s, m, args, below, meth, c, D, cy, A, nL, Q⟩ := X
  obtain ⟨ym, cc, nL0, ret, fr, lo, mc, ms⟩ := M
  obtain ⟨hx, hb, ⟨hml, hnL⟩, hown, hts, ⟨hlk, hret, hnm⟩, hK, hAm, hA, hRR⟩ := C
  intro H locs ls g1 g2 g3
  exact lv_lookup hx hb hd hp ho ht (k H locs ls g1 g2 g3)
theorem sj_ldc2 {X : sj_X} {M : sj_M} (C : sj_C X M) {S : sj_St} {cl sl : Nat} {L : List (Option Value)} {pc : Nat} {rest : List Value} {idx : Nat} (v : Int64) (q : Nat) (hq : pc + 3 = q) (hw : Cond.constantLong M.1.cls idx v ∈ sj_GT) (hd : decode M.2.1 pc = .ok (.ldc2_w idx, 3)) (k : sj_G X S cl sl L q (.long v :: rest)) : sj_G X S cl sl L pc rest := by
  obtain ⟨p, l, e, R, s, m, args, below, meth, c, D, cy, A, nL, Q⟩ := X
  obtain ⟨ym, cc, nL0, ret, fr, lo, mc, ms⟩ := M
  obtain ⟨hx, hb, ⟨hml, hnL⟩, hown, hts, ⟨hlk, hret, hnm⟩, hK, hAm, hA, hRR⟩ := C
  subst hq
  intro H locs ls g1 g2 g3
  exact lv_ldc2 hx hb hown (hts _ hw) hd (k H locs ls g1 g2 g3)
theorem sj_ldc2d {X : sj_X} {M : sj_M} (C : sj_C X M) {S : sj_St} {cl sl : Nat} {L : List (Option Value)} {pc : Nat} {rest : List Value} {idx : Nat} (v : UInt64) (q : Nat) (hq : pc + 3 = q) (hw : Cond.constantDouble M.1.cls idx v ∈ sj_GT) (hd : decode M.2.1 pc = .ok (.ldc2_w idx, 3)) (k : sj_G X S cl sl L q (.double v :: rest)) : sj_G X S cl sl L pc rest := by
  obtain ⟨p, l, e, R, s, m, args, below, meth, c, D, cy, A, nL, Q⟩ := X
  obtain ⟨ym, cc, nL0, ret, fr, lo, mc, ms⟩ := M
  obtain ⟨hx, hb, ⟨hml, hnL⟩, hown, hts, ⟨hlk, hret, hnm⟩, hK, hAm, hA, hRR⟩ := C
  subst hq
  intro H locs ls g1 g2 g3
  exact lv_ldc2d hx hb hown (hts _ hw) hd (k H locs ls g1 g2 g3)
end
section
def sj_Vi (own : String) (idx : Nat) (M : sj_M) (n : Nat) : Prop := match M with
  | (y, cc, nL, ret, _, _, _, _) => Cond.methodLink own idx y ∈ sj_GT ∧ Cond.instanceMethod y ∈ sj_GT ∧ Cond.initialized y.cls ∈ sj_GT ∧ Cond.code y cc nL ret ∈ sj_GT ∧ (y.cls ≠ "java/lang/invoke/MethodHandle" ∧ y.cls ≠ "java/lang/invoke/VarHandle") ∧ (parseMethodDescriptor y.desc).map (fun d => d.parameters.length) = some n
def sj_Vin (own : String) (idx : Nat) (M : sj_M) (n : Nat) : Prop := match M with
  | (y, cc, nL, ret, _, _, _, _) => Cond.methodLinkNest own idx y "SlantOaths" ∈ sj_NWl ∧ Cond.instanceMethod y ∈ sj_GT ∧ Cond.initialized y.cls ∈ sj_GT ∧ Cond.code y cc nL ret ∈ sj_GT ∧ (y.cls ≠ "java/lang/invoke/MethodHandle" ∧ y.cls ≠ "java/lang/invoke/VarHandle") ∧ (parseMethodDescriptor y.desc).map (fun d => d.parameters.length) = some n
-- ===== fields =====
def sj_df : List Nat → List Value := List.map (fun t => match t with | 0 => .int 0 | 1 => .null | _ => .long 0)
/-- what the tables say of a kind -/
def sj_K (ci : Nat) (C : String) (T : u_T) (N : Nat) (ty0 : Nat → FieldType) : Prop := vwCl[ci]? = some (C, T, N) ∧ (sj_tyl ci).length = N ∧ ci < 8 ∧ (∀ w ∈ u_ws C T N, w ∈ sj_GT) ∧ (∀ k, k < N → parseFieldDescriptor (T k).2.2.1 = some (ty0 k)) ∧ (∀ a, a < N → ∀ b, b < N → a ≠ b → (T a).2.1 ≠ (T b).2.1) ∧ (∀ j, j < N → defaultValue (ty0 j) = vp_V (sj_df (sj_tyl ci)) j)
def sj_L (own : String) (idx : Nat) (T : u_T) (k : Nat) : Prop := Cond.fieldLink own idx (T k).1 (T k).2.1 (T k).2.2.1 ∈ sj_GT ∨ Cond.fieldLinkNest own idx (T k).1 (T k).2.1 (T k).2.2.1 "SlantOaths" ∈ sj_NWl
/-- entry idx of own's table is field k of kind ci, of type ft (t: its sort); fin: whether it is final -/
def sj_Fd (own : String) (idx ci k t : Nat) (ft : FieldType) (fin : Bool) : Prop := ∃ (C : String) (T : u_T) (N : Nat) (ty0 : Nat → FieldType), sj_K ci C T N ty0 ∧ sj_L own idx T k ∧ k < N ∧ (sj_tyl ci)[k]? = some t ∧ ty0 k = ft ∧ (T k).2.2.2 = fin ∧ (T k).1 = C
theorem sj_kd_of {D : va_G} {cy : Nat → ClassId} {A : Nat → Prop} {S : sj_St} {H : Heap} {s : State} {a ci : Nat} {r : vw_C} (hK : va_K D vwCl (sj_tys cy) s) (h : sj_HP D cy A S H) (ha : sj_kd S a = some ci) (hc : vwCl[ci]? = some r) (h8 : ci < 8) : ∃ cell : Cell, H[a]? = some cell ∧ cell.vm.isStatics = false ∧ s.vm.findClass r.1 = some cell.cls := by
  obtain ⟨ws, hP, hD, hW⟩ := h
  obtain ⟨q0, hq0⟩ := hW a ci ha
  rw [sj_ce_obj _ _ _ h8] at hq0
  exact va_recv hK hP hc hq0
theorem sj_fv0 (S : sj_St) (a k : Nat) : sj_fv S a (0 + k) 0 = .int (sj_fi S a k) := by rw [Nat.zero_add]; rfl
theorem sj_fv1 (S : sj_St) (a k : Nat) : sj_fv S a (0 + k) 1 = va_rf (sj_rf S a k) := by rw [Nat.zero_add]; rfl
theorem sj_fv2 (S : sj_St) (a k : Nat) : sj_fv S a (0 + k) 2 = .long (sj_fl S a) := rfl
theorem sj_getI {X : sj_X} {M : sj_M} (C : sj_C X M) {S : sj_St} {cl sl : Nat} {L : List (Option Value)} {pc : Nat} {rest : List Value} {a ci k idx : Nat} {ft : FieldType} {fin : Bool} (q : Nat) (hq : pc + 3 = q) (hf : sj_Fd M.1.cls idx ci k 0 ft fin) (hd : decode M.2.1 pc = .ok (.getfield idx, 3)) (ha : sj_kd S a = some ci) (kk : sj_G X S cl sl L q (.int (sj_fi S a k) :: rest)) : sj_G X S cl sl L pc (.ref a :: rest) := by
  obtain ⟨p, l, e, R, s, m, args, below, meth, c, D, cy, A, nL, Q⟩ := X
  obtain ⟨ym, cc, nL0, ret, fr, lo, mc, ms⟩ := M
  obtain ⟨hx, hb, ⟨hml, hnL⟩, hown, hts, ⟨hlk, hret, hnm⟩, hK, hAm, hA, hRR⟩ := C
  subst hq
  obtain ⟨C0, T, N, ty0, ⟨hc, hlen, h8, hin, hty, hnm2, hdf⟩, hl, hk, ht, hft, hfin, hdecl⟩ := hf
  intro H locs ls h1 h2 h3
  have h1' := h1
  obtain ⟨ws, hP, hD, hWA⟩ := h1'
  obtain ⟨q0, hq0⟩ := hWA a ci ha
  rw [sj_ce_obj _ _ _ h8] at hq0
  have hv := sj_fs_get S a (sj_tyl ci) 0 k 0 ht
  rw [sj_fv0] at hv
  rcases hl with hl | hl
  · exact va_get hx hb hts hin hown hK hP q0 hq0 hc k hk (hts _ hl) (fun _ h => h) hv hd (kk H locs ls h1 h2 h3)
  · exact va_getN hx hb hts hin hown hK hP q0 hq0 hc k hk ((hAm.1 _ hl).use rfl) (fun _ h => h) hv hd (kk H locs ls h1 h2 h3)
theorem sj_getR {X : sj_X} {M : sj_M} (C : sj_C X M) {S : sj_St} {cl sl : Nat} {L : List (Option Value)} {pc : Nat} {rest : List Value} {a ci k idx : Nat} {ft : FieldType} {fin : Bool} (q : Nat) (hq : pc + 3 = q) (hf : sj_Fd M.1.cls idx ci k 1 ft fin) (hd : decode M.2.1 pc = .ok (.getfield idx, 3)) (ha : sj_kd S a = some ci) (kk : sj_G X S cl sl L q (va_rf (sj_rf S a k) :: rest)) : sj_G X S cl sl L pc (.ref a :: rest) := by
  obtain ⟨p, l, e, R, s, m, args, below, meth, c, D, cy, A, nL, Q⟩ := X
  obtain ⟨ym, cc, nL0, ret, fr, lo, mc, ms⟩ := M
  obtain ⟨hx, hb, ⟨hml, hnL⟩, hown, hts, ⟨hlk, hret, hnm⟩, hK, hAm, hA, hRR⟩ := C
  subst hq
  obtain ⟨C0, T, N, ty0, ⟨hc, hlen, h8, hin, hty, hnm2, hdf⟩, hl, hk, ht, hft, hfin, hdecl⟩ := hf
  intro H locs ls h1 h2 h3
  have h1' := h1
  obtain ⟨ws, hP, hD, hWA⟩ := h1'
  obtain ⟨q0, hq0⟩ := hWA a ci ha
  rw [sj_ce_obj _ _ _ h8] at hq0
  have hv := sj_fs_get S a (sj_tyl ci) 0 k 1 ht
  rw [sj_fv1] at hv
  rcases hl with hl | hl
  · exact va_get hx hb hts hin hown hK hP q0 hq0 hc k hk (hts _ hl) (fun _ h => h) hv hd (kk H locs ls h1 h2 h3)
  · exact va_getN hx hb hts hin hown hK hP q0 hq0 hc k hk ((hAm.1 _ hl).use rfl) (fun _ h => h) hv hd (kk H locs ls h1 h2 h3)
theorem sj_getJ {X : sj_X} {M : sj_M} (C : sj_C X M) {S : sj_St} {cl sl : Nat} {L : List (Option Value)} {pc : Nat} {rest : List Value} {a ci k idx : Nat} {ft : FieldType} {fin : Bool} (q : Nat) (hq : pc + 3 = q) (hf : sj_Fd M.1.cls idx ci k 2 ft fin) (hd : decode M.2.1 pc = .ok (.getfield idx, 3)) (ha : sj_kd S a = some ci) (kk : sj_G X S cl sl L q (.long (sj_fl S a) :: rest)) : sj_G X S cl sl L pc (.ref a :: rest) := by
  obtain ⟨p, l, e, R, s, m, args, below, meth, c, D, cy, A, nL, Q⟩ := X
  obtain ⟨ym, cc, nL0, ret, fr, lo, mc, ms⟩ := M
  obtain ⟨hx, hb, ⟨hml, hnL⟩, hown, hts, ⟨hlk, hret, hnm⟩, hK, hAm, hA, hRR⟩ := C
  subst hq
  obtain ⟨C0, T, N, ty0, ⟨hc, hlen, h8, hin, hty, hnm2, hdf⟩, hl, hk, ht, hft, hfin, hdecl⟩ := hf
  intro H locs ls h1 h2 h3
  have h1' := h1
  obtain ⟨ws, hP, hD, hWA⟩ := h1'
  obtain ⟨q0, hq0⟩ := hWA a ci ha
  rw [sj_ce_obj _ _ _ h8] at hq0
  have hv := sj_fs_get S a (sj_tyl ci) 0 k 2 ht
  rw [sj_fv2] at hv
  rcases hl with hl | hl
  · exact va_get hx hb hts hin hown hK hP q0 hq0 hc k hk (hts _ hl) (fun _ h => h) hv hd (kk H locs ls h1 h2 h3)
  · exact va_getN hx hb hts hin hown hK hP q0 hq0 hc k hk ((hAm.1 _ hl).use rfl) (fun _ h => h) hv hd (kk H locs ls h1 h2 h3)
theorem sj_getr {X : sj_X} {M : sj_M} (C : sj_C X M) {S : sj_St} {cl sl : Nat} {L : List (Option Value)} {pc : Nat} {rest : List Value} {a b ci k idx : Nat} {ft : FieldType} {fin : Bool} (q : Nat) (hq : pc + 3 = q) (hf : sj_Fd M.1.cls idx ci k 1 ft fin) (hd : decode M.2.1 pc = .ok (.getfield idx, 3)) (ha : sj_kd S a = some ci) (hb : sj_rf S a k = some b) (kk : sj_G X S cl sl L q (.ref b :: rest)) : sj_G X S cl sl L pc (.ref a :: rest) :=
  sj_getR C q hq hf hd ha (by rw [hb]; exact kk)
theorem sj_fs_other {S S' : sj_St} {b : Nat} (h1 : ∀ j, sj_fi S' b j = sj_fi S b j) (h2 : ∀ j, sj_rf S' b j = sj_rf S b j) (h3 : sj_fl S' b = sj_fl S b) (l : List Nat) (j : Nat) : sj_fs S' b j l = sj_fs S b j l := by
  refine sj_fs_congr l j (fun i t _ => ?_)
  match t with
  | 0 => exact congrArg Value.int (h1 _)
  | 1 => exact congrArg va_rf (h2 _)
  | _ + 2 => exact congrArg Value.long h3
theorem sj_ce_other {cy : Nat → ClassId} {S S' : sj_St} {b : Nat} (h1 : sj_fi S' b = sj_fi S b) (h2 : sj_rf S' b = sj_rf S b) (h3 : sj_fl S' b = sj_fl S b) (h4 : sj_il S' b = sj_il S b) (h5 : sj_ia S' b = sj_ia S b) (h6 : sj_ra S' b = sj_ra S b) (h7 : sj_la S' b = sj_la S b) (cj : Nat) : sj_ce cy S' b cj = sj_ce cy S b cj := by
  have h0 : ∀ l j, sj_fs S' b j l = sj_fs S b j l := sj_fs_other (fun j => by rw [h1]) (fun j => by rw [h2]) h3
  unfold sj_ce
  split <;> simp only [h4, h5, h6, h7, h0]
theorem sj_putI {X : sj_X} {M : sj_M} (C : sj_C X M) {S : sj_St} {cl sl : Nat} {L : List (Option Value)} {pc : Nat} {rest : List Value} {a ci k idx : Nat} {ft : FieldType} {v : Int32} (q : Nat) (hq : pc + 3 = q) (hf : sj_Fd M.1.cls idx ci k 0 ft false) (hd : decode M.2.1 pc = .ok (.putfield idx, 3)) (hn : narrow ft (.int v) = .int v) (hfit : fits ft (.int v) = true) (ha : sj_kd S a = some ci) (kk : sj_G X (sj_wFi S a k v) cl sl L q rest) : sj_G X S cl sl L pc (.int v :: .ref a :: rest) := by
  obtain ⟨p, l, e, R, s, m, args, below, meth, c, D, cy, A, nL, Q⟩ := X
  obtain ⟨ym, cc, nL0, ret, fr, lo, mc, ms⟩ := M
  obtain ⟨hx, hb, ⟨hml, hnL⟩, hown, hts, ⟨hlk, hret, hnm⟩, hK, hAm, hA, hRR⟩ := C
  subst hq
  obtain ⟨C0, T, N, ty0, ⟨hc, hlen, h8, hin, hty, hnm2, hdf⟩, hl, hk, ht, hft, hfin, hdecl⟩ := hf
  subst hft
  intro H locs ls h1 h2 h3
  obtain ⟨ws, hP, hD, hWA⟩ := h1
  obtain ⟨q0, hq0⟩ := hWA a ci ha
  rw [sj_ce_obj _ _ _ h8] at hq0
  have hlt : k < (sj_tyl ci).length := by rw [hlen]; exact hk
  have hset : (sj_fs S a 0 (sj_tyl ci)).set k (.int v) = sj_fs (sj_wFi S a k v) a 0 (sj_tyl ci) := by
    refine sj_fs_set (sj_tyl ci) 0 k _ hlt (fun t h => ?_) (fun i t h hne => ?_)
    · cases ht.symm.trans h
      rw [sj_fv0]
      show Value.int (sj_up (sj_fi S) a (sj_up (sj_fi S a) k v) a k) = _
      rw [sj_up_self, sj_up_self]
    · rw [Nat.zero_add]
      match t with
      | 0 =>
        show Value.int (sj_up (sj_fi S) a (sj_up (sj_fi S a) k v) a i) = Value.int (sj_fi S a i)
        rw [sj_up_self, sj_up_ne _ _ hne]
      | 1 => rfl
      | _ + 2 => rfl
  have hWA' : sj_WA cy (sj_wFi S a k v) (ws.set q0 (a, .inr (ci, (sj_fs S a 0 (sj_tyl ci)).set k (.int v)))) := by
    rw [hset, ← sj_ce_obj cy _ _ h8]
    exact sj_WA_set hWA rfl hq0 ha (fun b cj hb => sj_ce_other (S := S) (S' := sj_wFi S a k v) (sj_up_ne _ _ hb) rfl rfl rfl rfl rfl rfl cj)
  rcases hl with hl | hl
  · exact va_put hx hb hts hin ty0 hty hnm2 hown hK hP hD h2 q0 hq0 hc k hk (hts _ hl) (fun _ h => h) hfin (hty k hk) hn hfit (by rw [sj_fs_len]; exact hlt) hd (fun H1 locs1 hP1 hD1 hS1 => kk H1 locs1 ls ⟨_, hP1, hD1, hWA'⟩ hS1 h3)
  · exact va_putN hx hb hts hin ty0 hty hnm2 hown hK hP hD h2 q0 hq0 hc k hk ((hAm.1 _ hl).use rfl) (fun _ h => h) hfin (hty k hk) hn hfit (by rw [sj_fs_len]; exact hlt) hd (fun H1 locs1 hP1 hD1 hS1 => kk H1 locs1 ls ⟨_, hP1, hD1, hWA'⟩ hS1 h3)
theorem sj_putJ {X : sj_X} {M : sj_M} (C : sj_C X M) {S : sj_St} {cl sl : Nat} {L : List (Option Value)} {pc : Nat} {rest : List Value} {a ci k idx : Nat} {ft : FieldType} {v : Int64} (q : Nat) (hq : pc + 3 = q) (hf : sj_Fd M.1.cls idx ci k 2 ft false) (hd : decode M.2.1 pc = .ok (.putfield idx, 3)) (hn : narrow ft (.long v) = .long v) (hfit : fits ft (.long v) = true) (h1only : ∀ i t, (sj_tyl ci)[i]? = some t → i ≠ k → t < 2) (ha : sj_kd S a = some ci) (kk : sj_G X (sj_wFl S a v) cl sl L q rest) : sj_G X S cl sl L pc (.long v :: .ref a :: rest) := by
  obtain ⟨p, l, e, R, s, m, args, below, meth, c, D, cy, A, nL, Q⟩ := X
  obtain ⟨ym, cc, nL0, ret, fr, lo, mc, ms⟩ := M
  obtain ⟨hx, hb, ⟨hml, hnL⟩, hown, hts, ⟨hlk, hret, hnm⟩, hK, hAm, hA, hRR⟩ := C
  subst hq
  obtain ⟨C0, T, N, ty0, ⟨hc, hlen, h8, hin, hty, hnm2, hdf⟩, hl, hk, ht, hft, hfin, hdecl⟩ := hf
  subst hft
  intro H locs ls h1 h2 h3
  obtain ⟨ws, hP, hD, hWA⟩ := h1
  obtain ⟨q0, hq0⟩ := hWA a ci ha
  rw [sj_ce_obj _ _ _ h8] at hq0
  have hlt : k < (sj_tyl ci).length := by rw [hlen]; exact hk
  have hset : (sj_fs S a 0 (sj_tyl ci)).set k (.long v) = sj_fs (sj_wFl S a v) a 0 (sj_tyl ci) := by
    refine sj_fs_set (sj_tyl ci) 0 k _ hlt (fun t h => ?_) (fun i t h hne => ?_)
    · cases ht.symm.trans h
      show Value.long (sj_up (sj_fl S) a v a) = _
      rw [sj_up_self]
    · have h0 := h1only i t h hne
      match t, h0 with
      | 0, _ => rfl
      | 1, _ => rfl
      | _ + 2, h0 => exact absurd h0 (by omega)
  have hWA' : sj_WA cy (sj_wFl S a v) (ws.set q0 (a, .inr (ci, (sj_fs S a 0 (sj_tyl ci)).set k (.long v)))) := by
    rw [hset, ← sj_ce_obj cy _ _ h8]
    exact sj_WA_set hWA rfl hq0 ha (fun b cj hb => sj_ce_other (S := S) (S' := sj_wFl S a v) rfl rfl (sj_up_ne _ _ hb) rfl rfl rfl rfl cj)
  rcases hl with hl | hl
  · exact va_put hx hb hts hin ty0 hty hnm2 hown hK hP hD h2 q0 hq0 hc k hk (hts _ hl) (fun _ h => h) hfin (hty k hk) hn hfit (by rw [sj_fs_len]; exact hlt) hd (fun H1 locs1 hP1 hD1 hS1 => kk H1 locs1 ls ⟨_, hP1, hD1, hWA'⟩ hS1 h3)
  · exact va_putN hx hb hts hin ty0 hty hnm2 hown hK hP hD h2 q0 hq0 hc k hk ((hAm.1 _ hl).use rfl) (fun _ h => h) hfin (hty k hk) hn hfit (by rw [sj_fs_len]; exact hlt) hd (fun H1 locs1 hP1 hD1 hS1 => kk H1 locs1 ls ⟨_, hP1, hD1, hWA'⟩ hS1 h3)
theorem sj_putRF {X : sj_X} {M : sj_M} (C : sj_C X M) {S : sj_St} {cl sl : Nat} {L : List (Option Value)} {pc : Nat} {rest : List Value} {a ci k idx : Nat} {ft : FieldType} {v : Option Nat} (q : Nat) (hq : pc + 3 = q) (hf : sj_Fd M.1.cls idx ci k 1 ft true) (hd : decode M.2.1 pc = .ok (.putfield idx, 3)) (hn : narrow ft (va_rf v) = va_rf v) (hfit : fits ft (va_rf v) = true) (hinit : M.1.name = "<init>") (hown1 : ∀ C1 T1 N1, vwCl[ci]? = some (C1, T1, N1) → C1 = M.1.cls) (hnoN : ∀ a b c e, ¬ Cond.fieldLinkNest M.1.cls idx a b c e ∈ sj_NWl) (ha : sj_kd S a = some ci) (kk : sj_G X (sj_wRf S a k v) cl sl L q rest) : sj_G X S cl sl L pc (va_rf v :: .ref a :: rest) := by
  obtain ⟨p, l, e, R, s, m, args, below, meth, c, D, cy, A, nL, Q⟩ := X
  obtain ⟨ym, cc, nL0, ret, fr, lo, mc, ms⟩ := M
  obtain ⟨hx, hb, ⟨hml, hnL⟩, hown, hts, ⟨hlk, hret, hnm⟩, hK, hAm, hA, hRR⟩ := C
  subst hq
  obtain ⟨C0, T, N, ty0, ⟨hc, hlen, h8, hin, hty, hnm2, hdf⟩, hl, hk, ht, hft, hfin, hdecl⟩ := hf
  subst hft
  intro H locs ls h1 h2 h3
  obtain ⟨ws, hP, hD, hWA⟩ := h1
  obtain ⟨q0, hq0⟩ := hWA a ci ha
  rw [sj_ce_obj _ _ _ h8] at hq0
  have hlt : k < (sj_tyl ci).length := by rw [hlen]; exact hk
  have hset : (sj_fs S a 0 (sj_tyl ci)).set k (va_rf v) = sj_fs (sj_wRf S a k v) a 0 (sj_tyl ci) := by
    refine sj_fs_set (sj_tyl ci) 0 k _ hlt (fun t h => ?_) (fun i t h hne => ?_)
    · cases ht.symm.trans h
      rw [sj_fv1]
      show va_rf (sj_up (sj_rf S) a (sj_up (sj_rf S a) k v) a k) = _
      rw [sj_up_self, sj_up_self]
    · rw [Nat.zero_add]
      match t with
      | 0 => rfl
      | 1 =>
        show va_rf (sj_up (sj_rf S) a (sj_up (sj_rf S a) k v) a i) = va_rf (sj_rf S a i)
        rw [sj_up_self, sj_up_ne _ _ hne]
      | _ + 2 => rfl
  have hWA' : sj_WA cy (sj_wRf S a k v) (ws.set q0 (a, .inr (ci, (sj_fs S a 0 (sj_tyl ci)).set k (va_rf v)))) := by
    rw [hset, ← sj_ce_obj cy _ _ h8]
    exact sj_WA_set hWA rfl hq0 ha (fun b cj hb => sj_ce_other (S := S) (S' := sj_wRf S a k v) rfl (sj_up_ne _ _ hb) rfl rfl rfl rfl rfl cj)
  rcases hl with hl | hl
  · exact va_putF hx hb hts hin ty0 hty hnm2 hown hK hP hD h2 q0 hq0 hc k hk (hts _ hl) (fun _ h => h) hfin (hnm.trans hinit) (hdecl.trans (hown1 _ _ _ hc)) (hty k hk) hn hfit (by rw [sj_fs_len]; exact hlt) hd (fun H1 locs1 hP1 hD1 hS1 => kk H1 locs1 ls ⟨_, hP1, hD1, hWA'⟩ hS1 h3)
  · exact absurd hl (hnoN _ _ _ _)
theorem sj_putIF {X : sj_X} {M : sj_M} (C : sj_C X M) {S : sj_St} {cl sl : Nat} {L : List (Option Value)} {pc : Nat} {rest : List Value} {a ci k idx : Nat} {ft : FieldType} {v : Int32} (q : Nat) (hq : pc + 3 = q) (hf : sj_Fd M.1.cls idx ci k 0 ft true) (hd : decode M.2.1 pc = .ok (.putfield idx, 3)) (hn : narrow ft (.int v) = .int v) (hfit : fits ft (.int v) = true) (hinit : M.1.name = "<init>") (hown1 : ∀ C1 T1 N1, vwCl[ci]? = some (C1, T1, N1) → C1 = M.1.cls) (hnoN : ∀ a b c e, ¬ Cond.fieldLinkNest M.1.cls idx a b c e ∈ sj_NWl) (ha : sj_kd S a = some ci) (kk : sj_G X (sj_wFi S a k v) cl sl L q rest) : sj_G X S cl sl L pc (.int v :: .ref a :: rest) := by
  obtain ⟨p, l, e, R, s, m, args, below, meth, c, D, cy, A, nL, Q⟩ := X
  obtain ⟨ym, cc, nL0, ret, fr, lo, mc, ms⟩ := M
  obtain ⟨hx, hb, ⟨hml, hnL⟩, hown, hts, ⟨hlk, hret, hnm⟩, hK, hAm, hA, hRR⟩ := C
  subst hq
  obtain ⟨C0, T, N, ty0, ⟨hc, hlen, h8, hin, hty, hnm2, hdf⟩, hl, hk, ht, hft, hfin, hdecl⟩ := hf
  subst hft
  intro H locs ls h1 h2 h3
  obtain ⟨ws, hP, hD, hWA⟩ := h1
  obtain ⟨q0, hq0⟩ := hWA a ci ha
  rw [sj_ce_obj _ _ _ h8] at hq0
  have hlt : k < (sj_tyl ci).length := by rw [hlen]; exact hk
  have hset : (sj_fs S a 0 (sj_tyl ci)).set k (.int v) = sj_fs (sj_wFi S a k v) a 0 (sj_tyl ci) := by
    refine sj_fs_set (sj_tyl ci) 0 k _ hlt (fun t h => ?_) (fun i t h hne => ?_)
    · cases ht.symm.trans h
      rw [sj_fv0]
      show Value.int (sj_up (sj_fi S) a (sj_up (sj_fi S a) k v) a k) = _
      rw [sj_up_self, sj_up_self]
    · rw [Nat.zero_add]
      match t with
      | 0 =>
        show Value.int (sj_up (sj_fi S) a (sj_up (sj_fi S a) k v) a i) = Value.int (sj_fi S a i)
        rw [sj_up_self, sj_up_ne _ _ hne]
      | 1 => rfl
      | _ + 2 => rfl
  have hWA' : sj_WA cy (sj_wFi S a k v) (ws.set q0 (a, .inr (ci, (sj_fs S a 0 (sj_tyl ci)).set k (.int v)))) := by
    rw [hset, ← sj_ce_obj cy _ _ h8]
    exact sj_WA_set hWA rfl hq0 ha (fun b cj hb => sj_ce_other (S := S) (S' := sj_wFi S a k v) (sj_up_ne _ _ hb) rfl rfl rfl rfl rfl rfl cj)
  rcases hl with hl | hl
  · exact va_putF hx hb hts hin ty0 hty hnm2 hown hK hP hD h2 q0 hq0 hc k hk (hts _ hl) (fun _ h => h) hfin (hnm.trans hinit) (hdecl.trans (hown1 _ _ _ hc)) (hty k hk) hn hfit (by rw [sj_fs_len]; exact hlt) hd (fun H1 locs1 hP1 hD1 hS1 => kk H1 locs1 ls ⟨_, hP1, hD1, hWA'⟩ hS1 h3)
  · exact absurd hl (hnoN _ _ _ _)
-- ===== rows =====
theorem sj_iald {X : sj_X} {M : sj_M} (C : sj_C X M) {S : sj_St} {cl sl : Nat} {L : List (Option Value)} {pc : Nat} {rest : List Value} {a : Nat} {i : Int32} (q : Nat) (hq : pc + 1 = q) (hd : decode M.2.1 pc = .ok (.iaload, 1)) (ha : sj_kd S a = some 8) (hi : vp_in i (sj_il S a)) (kk : sj_G X S cl sl L q (.int (sj_ia S a i.toNatClampNeg) :: rest)) : sj_G X S cl sl L pc (.int i :: .ref a :: rest) := by
  obtain ⟨p, l, e, R, s, m, args, below, meth, c, D, cy, A, nL, Q⟩ := X
  obtain ⟨ym, cc, nL0, ret, fr, lo, mc, ms⟩ := M
  obtain ⟨hx, hb, ⟨hml, hnL⟩, hown, hts, ⟨hlk, hret, hnm⟩, hK, hAm, hA, hRR⟩ := C
  subst hq
  intro H locs ls h1 h2 h3
  have h1' := h1
  obtain ⟨ws, hP, hD, hWA⟩ := h1'
  obtain ⟨q0, hq0⟩ := hWA a 8 ha
  exact va_iald hx hb hK hP q0 0 hq0 rfl hi hd (kk H locs ls h1 h2 h3)
theorem sj_iast {X : sj_X} {M : sj_M} (C : sj_C X M) {S : sj_St} {cl sl : Nat} {L : List (Option Value)} {pc : Nat} {rest : List Value} {a : Nat} {i v : Int32} (q : Nat) (hq : pc + 1 = q) (hd : decode M.2.1 pc = .ok (.iastore, 1)) (ha : sj_kd S a = some 8) (hi : vp_in i (sj_il S a)) (kk : sj_G X (sj_wIa S a i.toNatClampNeg v) cl sl L q rest) : sj_G X S cl sl L pc (.int v :: .int i :: .ref a :: rest) := by
  obtain ⟨p, l, e, R, s, m, args, below, meth, c, D, cy, A, nL, Q⟩ := X
  obtain ⟨ym, cc, nL0, ret, fr, lo, mc, ms⟩ := M
  obtain ⟨hx, hb, ⟨hml, hnL⟩, hown, hts, ⟨hlk, hret, hnm⟩, hK, hAm, hA, hRR⟩ := C
  subst hq
  intro H locs ls h1 h2 h3
  obtain ⟨ws, hP, hD, hWA⟩ := h1
  obtain ⟨q0, hq0⟩ := hWA a 8 ha
  have hce : sj_ce cy (sj_wIa S a i.toNatClampNeg v) a 8 = .inl (cy 0, sj_il S a, .inl (upd (sj_ia S a) i.toNatClampNeg v)) := by
    show (Sum.inl (cy 0, sj_il S a, .inl (sj_up (sj_ia S) a (upd (sj_ia S a) i.toNatClampNeg v) a)) : va_E) = _
    rw [sj_up_self]
  have hWA' : sj_WA cy (sj_wIa S a i.toNatClampNeg v) (ws.set q0 (a, .inl (cy 0, sj_il S a, .inl (upd (sj_ia S a) i.toNatClampNeg v)))) := by
    rw [← hce]
    exact sj_WA_set hWA rfl hq0 ha (fun b cj hb => sj_ce_other (S := S) (S' := sj_wIa S a i.toNatClampNeg v) rfl rfl rfl rfl (sj_up_ne _ _ hb) rfl rfl cj)
  exact va_iast hx hb hK hP hD h2 q0 0 hq0 rfl hi hd (fun H1 locs1 hP1 hD1 hS1 => kk H1 locs1 ls ⟨_, hP1, hD1, hWA'⟩ hS1 h3)
theorem sj_lald {X : sj_X} {M : sj_M} (C : sj_C X M) {S : sj_St} {cl sl : Nat} {L : List (Option Value)} {pc : Nat} {rest : List Value} {a : Nat} {i : Int32} (q : Nat) (hq : pc + 1 = q) (hd : decode M.2.1 pc = .ok (.laload, 1)) (ha : sj_kd S a = some 11) (hi : vp_in i (sj_il S a)) (kk : sj_G X S cl sl L q (.long (sj_la S a i.toNatClampNeg) :: rest)) : sj_G X S cl sl L pc (.int i :: .ref a :: rest) := by
  obtain ⟨p, l, e, R, s, m, args, below, meth, c, D, cy, A, nL, Q⟩ := X
  obtain ⟨ym, cc, nL0, ret, fr, lo, mc, ms⟩ := M
  obtain ⟨hx, hb, ⟨hml, hnL⟩, hown, hts, ⟨hlk, hret, hnm⟩, hK, hAm, hA, hRR⟩ := C
  subst hq
  intro H locs ls h1 h2 h3
  have h1' := h1
  obtain ⟨ws, hP, hD, hWA⟩ := h1'
  obtain ⟨q0, hq0⟩ := hWA a 11 ha
  exact va_lald hx hb hK hP q0 3 hq0 rfl hi hd (kk H locs ls h1 h2 h3)
theorem sj_last {X : sj_X} {M : sj_M} (C : sj_C X M) {S : sj_St} {cl sl : Nat} {L : List (Option Value)} {pc : Nat} {rest : List Value} {a : Nat} {i : Int32} {v : Int64} (q : Nat) (hq : pc + 1 = q) (hd : decode M.2.1 pc = .ok (.lastore, 1)) (ha : sj_kd S a = some 11) (hi : vp_in i (sj_il S a)) (kk : sj_G X (sj_wLa S a i.toNatClampNeg v) cl sl L q rest) : sj_G X S cl sl L pc (.long v :: .int i :: .ref a :: rest) := by
  obtain ⟨p, l, e, R, s, m, args, below, meth, c, D, cy, A, nL, Q⟩ := X
  obtain ⟨ym, cc, nL0, ret, fr, lo, mc, ms⟩ := M
  obtain ⟨hx, hb, ⟨hml, hnL⟩, hown, hts, ⟨hlk, hret, hnm⟩, hK, hAm, hA, hRR⟩ := C
  subst hq
  intro H locs ls h1 h2 h3
  obtain ⟨ws, hP, hD, hWA⟩ := h1
  obtain ⟨q0, hq0⟩ := hWA a 11 ha
  have hce : sj_ce cy (sj_wLa S a i.toNatClampNeg v) a 11 = .inl (cy 3, sj_il S a, .inr (.inl (vp_updL (sj_la S a) i.toNatClampNeg v))) := by
    show (Sum.inl (cy 3, sj_il S a, .inr (.inl (sj_up (sj_la S) a (vp_updL (sj_la S a) i.toNatClampNeg v) a))) : va_E) = _
    rw [sj_up_self]
  have hWA' : sj_WA cy (sj_wLa S a i.toNatClampNeg v) (ws.set q0 (a, .inl (cy 3, sj_il S a, .inr (.inl (vp_updL (sj_la S a) i.toNatClampNeg v))))) := by
    rw [← hce]
    exact sj_WA_set hWA rfl hq0 ha (fun b cj hb => sj_ce_other (S := S) (S' := sj_wLa S a i.toNatClampNeg v) rfl rfl rfl rfl rfl rfl (sj_up_ne _ _ hb) cj)
  exact va_last hx hb hK hP hD h2 q0 3 hq0 rfl hi hd (fun H1 locs1 hP1 hD1 hS1 => kk H1 locs1 ls ⟨_, hP1, hD1, hWA'⟩ hS1 h3)
theorem sj_aald9 {X : sj_X} {M : sj_M} (C : sj_C X M) {S : sj_St} {cl sl : Nat} {L : List (Option Value)} {pc : Nat} {rest : List Value} {a : Nat} {i : Int32} (q : Nat) (hq : pc + 1 = q) (hd : decode M.2.1 pc = .ok (.aaload, 1)) (ha : sj_kd S a = some 9) (hi : vp_in i (sj_il S a)) (kk : sj_G X S cl sl L q (va_rf (sj_ra S a i.toNatClampNeg) :: rest)) : sj_G X S cl sl L pc (.int i :: .ref a :: rest) := by
  obtain ⟨p, l, e, R, s, m, args, below, meth, c, D, cy, A, nL, Q⟩ := X
  obtain ⟨ym, cc, nL0, ret, fr, lo, mc, ms⟩ := M
  obtain ⟨hx, hb, ⟨hml, hnL⟩, hown, hts, ⟨hlk, hret, hnm⟩, hK, hAm, hA, hRR⟩ := C
  subst hq
  intro H locs ls h1 h2 h3
  have h1' := h1
  obtain ⟨ws, hP, hD, hWA⟩ := h1'
  obtain ⟨q0, hq0⟩ := hWA a 9 ha
  exact va_aldq hx hb hK hP q0 1 hq0 rfl hi hd (kk H locs ls h1 h2 h3)
theorem sj_aast9 {X : sj_X} {M : sj_M} (C : sj_C X M) {S : sj_St} {cl sl : Nat} {L : List (Option Value)} {pc : Nat} {rest : List Value} {a : Nat} {i : Int32} {v : Option Nat} (q : Nat) (hq : pc + 1 = q) (hd : decode M.2.1 pc = .ok (.aastore, 1)) (ha : sj_kd S a = some 9) (hi : vp_in i (sj_il S a)) (hv : ∀ b, v = some b → sj_kd S b = some 3) (kk : sj_G X (sj_wRa S a i.toNatClampNeg v) cl sl L q rest) : sj_G X S cl sl L pc (va_rf v :: .int i :: .ref a :: rest) := by
  obtain ⟨p, l, e, R, s, m, args, below, meth, c, D, cy, A, nL, Q⟩ := X
  obtain ⟨ym, cc, nL0, ret, fr, lo, mc, ms⟩ := M
  obtain ⟨hx, hb, ⟨hml, hnL⟩, hown, hts, ⟨hlk, hret, hnm⟩, hK, hAm, hA, hRR⟩ := C
  subst hq
  intro H locs ls h1 h2 h3
  obtain ⟨ws, hP, hD, hWA⟩ := h1
  obtain ⟨q0, hq0⟩ := hWA a 9 ha
  have hce : sj_ce cy (sj_wRa S a i.toNatClampNeg v) a 9 = .inl (cy 1, sj_il S a, .inr (.inr (.inr (.inr (va_up (sj_ra S a) i.toNatClampNeg v))))) := by
    show (Sum.inl (cy 1, sj_il S a, .inr (.inr (.inr (.inr (sj_up (sj_ra S) a (va_up (sj_ra S a) i.toNatClampNeg v) a))))) : va_E) = _
    rw [sj_up_self]
  have hWA' : sj_WA cy (sj_wRa S a i.toNatClampNeg v) (ws.set q0 (a, .inl (cy 1, sj_il S a, .inr (.inr (.inr (.inr (va_up (sj_ra S a) i.toNatClampNeg v))))))) := by
    rw [← hce]
    exact sj_WA_set hWA rfl hq0 ha (fun b cj hb => sj_ce_other (S := S) (S' := sj_wRa S a i.toNatClampNeg v) rfl rfl rfl rfl rfl (sj_up_ne _ _ hb) rfl cj)
  cases v with
  | some b =>
    obtain ⟨qk, hqk⟩ := hWA b 3 (hv b rfl)
    exact va_astq hx hb hK hP hD h2 q0 1 qk 3 hq0 rfl hqk rfl hi hd (fun H1 locs1 hP1 hD1 hS1 => kk H1 locs1 ls ⟨_, hP1, hD1, hWA'⟩ hS1 h3)
  | none => exact va_astqN hx hb hK hP hD h2 q0 1 hq0 rfl hi hd (fun H1 locs1 hP1 hD1 hS1 => kk H1 locs1 ls ⟨_, hP1, hD1, hWA'⟩ hS1 h3)
theorem sj_aald10 {X : sj_X} {M : sj_M} (C : sj_C X M) {S : sj_St} {cl sl : Nat} {L : List (Option Value)} {pc : Nat} {rest : List Value} {a : Nat} {i : Int32} (q : Nat) (hq : pc + 1 = q) (hd : decode M.2.1 pc = .ok (.aaload, 1)) (ha : sj_kd S a = some 10) (hi : vp_in i (sj_il S a)) (kk : sj_G X S cl sl L q (va_rf (sj_ra S a i.toNatClampNeg) :: rest)) : sj_G X S cl sl L pc (.int i :: .ref a :: rest) := by
  obtain ⟨p, l, e, R, s, m, args, below, meth, c, D, cy, A, nL, Q⟩ := X
  obtain ⟨ym, cc, nL0, ret, fr, lo, mc, ms⟩ := M
  obtain ⟨hx, hb, ⟨hml, hnL⟩, hown, hts, ⟨hlk, hret, hnm⟩, hK, hAm, hA, hRR⟩ := C
  subst hq
  intro H locs ls h1 h2 h3
  have h1' := h1
  obtain ⟨ws, hP, hD, hWA⟩ := h1'
  obtain ⟨q0, hq0⟩ := hWA a 10 ha
  exact va_aldq hx hb hK hP q0 2 hq0 rfl hi hd (kk H locs ls h1 h2 h3)
theorem sj_aast10 {X : sj_X} {M : sj_M} (C : sj_C X M) {S : sj_St} {cl sl : Nat} {L : List (Option Value)} {pc : Nat} {rest : List Value} {a : Nat} {i : Int32} {v : Option Nat} (q : Nat) (hq : pc + 1 = q) (hd : decode M.2.1 pc = .ok (.aastore, 1)) (ha : sj_kd S a = some 10) (hi : vp_in i (sj_il S a)) (hv : ∀ b, v = some b → sj_kd S b = some 4) (kk : sj_G X (sj_wRa S a i.toNatClampNeg v) cl sl L q rest) : sj_G X S cl sl L pc (va_rf v :: .int i :: .ref a :: rest) := by
  obtain ⟨p, l, e, R, s, m, args, below, meth, c, D, cy, A, nL, Q⟩ := X
  obtain ⟨ym, cc, nL0, ret, fr, lo, mc, ms⟩ := M
  obtain ⟨hx, hb, ⟨hml, hnL⟩, hown, hts, ⟨hlk, hret, hnm⟩, hK, hAm, hA, hRR⟩ := C
  subst hq
  intro H locs ls h1 h2 h3
  obtain ⟨ws, hP, hD, hWA⟩ := h1
  obtain ⟨q0, hq0⟩ := hWA a 10 ha
  have hce : sj_ce cy (sj_wRa S a i.toNatClampNeg v) a 10 = .inl (cy 2, sj_il S a, .inr (.inr (.inr (.inr (va_up (sj_ra S a) i.toNatClampNeg v))))) := by
    show (Sum.inl (cy 2, sj_il S a, .inr (.inr (.inr (.inr (sj_up (sj_ra S) a (va_up (sj_ra S a) i.toNatClampNeg v) a))))) : va_E) = _
    rw [sj_up_self]
  have hWA' : sj_WA cy (sj_wRa S a i.toNatClampNeg v) (ws.set q0 (a, .inl (cy 2, sj_il S a, .inr (.inr (.inr (.inr (va_up (sj_ra S a) i.toNatClampNeg v))))))) := by
    rw [← hce]
    exact sj_WA_set hWA rfl hq0 ha (fun b cj hb => sj_ce_other (S := S) (S' := sj_wRa S a i.toNatClampNeg v) rfl rfl rfl rfl rfl (sj_up_ne _ _ hb) rfl cj)
  cases v with
  | some b =>
    obtain ⟨qk, hqk⟩ := hWA b 4 (hv b rfl)
    exact va_astq hx hb hK hP hD h2 q0 2 qk 4 hq0 rfl hqk rfl hi hd (fun H1 locs1 hP1 hD1 hS1 => kk H1 locs1 ls ⟨_, hP1, hD1, hWA'⟩ hS1 h3)
  | none => exact va_astqN hx hb hK hP hD h2 q0 2 hq0 rfl hi hd (fun H1 locs1 hP1 hD1 hS1 => kk H1 locs1 ls ⟨_, hP1, hD1, hWA'⟩ hS1 h3)
theorem sj_alen8 {X : sj_X} {M : sj_M} (C : sj_C X M) {S : sj_St} {cl sl : Nat} {L : List (Option Value)} {pc : Nat} {rest : List Value} {a : Nat} (q : Nat) (hq : pc + 1 = q) (hd : decode M.2.1 pc = .ok (.arraylength, 1)) (ha : sj_kd S a = some 8) (kk : sj_G X S cl sl L q (.int (Int32.ofNat (sj_il S a)) :: rest)) : sj_G X S cl sl L pc (.ref a :: rest) := by
  obtain ⟨p, l, e, R, s, m, args, below, meth, c, D, cy, A, nL, Q⟩ := X
  obtain ⟨ym, cc, nL0, ret, fr, lo, mc, ms⟩ := M
  obtain ⟨hx, hb, ⟨hml, hnL⟩, hown, hts, ⟨hlk, hret, hnm⟩, hK, hAm, hA, hRR⟩ := C
  subst hq
  intro H locs ls h1 h2 h3
  have h1' := h1
  obtain ⟨ws, hP, hD, hWA⟩ := h1'
  obtain ⟨q0, hq0⟩ := hWA a 8 ha
  exact va_alen hx hb hK hP q0 0 hq0 rfl rfl hd (kk H locs ls h1 h2 h3)
theorem sj_alen9 {X : sj_X} {M : sj_M} (C : sj_C X M) {S : sj_St} {cl sl : Nat} {L : List (Option Value)} {pc : Nat} {rest : List Value} {a : Nat} (q : Nat) (hq : pc + 1 = q) (hd : decode M.2.1 pc = .ok (.arraylength, 1)) (ha : sj_kd S a = some 9) (kk : sj_G X S cl sl L q (.int (Int32.ofNat (sj_il S a)) :: rest)) : sj_G X S cl sl L pc (.ref a :: rest) := by
  obtain ⟨p, l, e, R, s, m, args, below, meth, c, D, cy, A, nL, Q⟩ := X
  obtain ⟨ym, cc, nL0, ret, fr, lo, mc, ms⟩ := M
  obtain ⟨hx, hb, ⟨hml, hnL⟩, hown, hts, ⟨hlk, hret, hnm⟩, hK, hAm, hA, hRR⟩ := C
  subst hq
  intro H locs ls h1 h2 h3
  have h1' := h1
  obtain ⟨ws, hP, hD, hWA⟩ := h1'
  obtain ⟨q0, hq0⟩ := hWA a 9 ha
  exact va_alen hx hb hK hP q0 1 hq0 rfl rfl hd (kk H locs ls h1 h2 h3)
theorem sj_alen10 {X : sj_X} {M : sj_M} (C : sj_C X M) {S : sj_St} {cl sl : Nat} {L : List (Option Value)} {pc : Nat} {rest : List Value} {a : Nat} (q : Nat) (hq : pc + 1 = q) (hd : decode M.2.1 pc = .ok (.arraylength, 1)) (ha : sj_kd S a = some 10) (kk : sj_G X S cl sl L q (.int (Int32.ofNat (sj_il S a)) :: rest)) : sj_G X S cl sl L pc (.ref a :: rest) := by
  obtain ⟨p, l, e, R, s, m, args, below, meth, c, D, cy, A, nL, Q⟩ := X
  obtain ⟨ym, cc, nL0, ret, fr, lo, mc, ms⟩ := M
  obtain ⟨hx, hb, ⟨hml, hnL⟩, hown, hts, ⟨hlk, hret, hnm⟩, hK, hAm, hA, hRR⟩ := C
  subst hq
  intro H locs ls h1 h2 h3
  have h1' := h1
  obtain ⟨ws, hP, hD, hWA⟩ := h1'
  obtain ⟨q0, hq0⟩ := hWA a 10 ha
  exact va_alen hx hb hK hP q0 2 hq0 rfl rfl hd (kk H locs ls h1 h2 h3)
theorem sj_alen11 {X : sj_X} {M : sj_M} (C : sj_C X M) {S : sj_St} {cl sl : Nat} {L : List (Option Value)} {pc : Nat} {rest : List Value} {a : Nat} (q : Nat) (hq : pc + 1 = q) (hd : decode M.2.1 pc = .ok (.arraylength, 1)) (ha : sj_kd S a = some 11) (kk : sj_G X S cl sl L q (.int (Int32.ofNat (sj_il S a)) :: rest)) : sj_G X S cl sl L pc (.ref a :: rest) := by
  obtain ⟨p, l, e, R, s, m, args, below, meth, c, D, cy, A, nL, Q⟩ := X
  obtain ⟨ym, cc, nL0, ret, fr, lo, mc, ms⟩ := M
  obtain ⟨hx, hb, ⟨hml, hnL⟩, hown, hts, ⟨hlk, hret, hnm⟩, hK, hAm, hA, hRR⟩ := C
  subst hq
  intro H locs ls h1 h2 h3
  have h1' := h1
  obtain ⟨ws, hP, hD, hWA⟩ := h1'
  obtain ⟨q0, hq0⟩ := hWA a 11 ha
  exact va_alen hx hb hK hP q0 3 hq0 rfl rfl hd (kk H locs ls h1 h2 h3)
-- ===== calls =====
theorem sj_goCall {p : Program} {l : Launch} {e : Env} {R : Room} {s : State} {m : MethodId} {args : Array Value} {below : List Frame} {meth : Method} {c : Code} {D : va_G} {cy : Nat → ClassId} {A : Nat → Prop} {Q : State → Prop} {H : Heap} {locs : List Loc} {cl sl mc ms pc : Nat} {ls : Array Slot} {st0 rest : List Value} {Post : Option Value → sj_St → Prop} {a : Array Value}
    (hr : va_Run p l e R s m args below meth c H locs cl sl mc ms (F0 m pc ls st0) rest (sj_Qc D cy A Post a) A) (hS : va_S A s.heap H locs)
    (kk : ∀ (v : Option Value) (S' : sj_St) (H1 : Heap) (locs1 : List Loc), Post v S' → sj_HP D cy A S' H1 → va_S A s.heap H1 locs1 → W p l e R s m args below meth c H1 locs1 (cl + mc) (sl + ms) Q (F0 m (pc + 3) ls (v.toList ++ rest))) : W p l e R s m args below meth c H locs cl sl Q (F0 m pc ls st0) := by
  intro T hT X
  obtain ⟨v, st₀, t, T', L, h0, X', hL, e1, e2, ⟨⟨r, S', hv, hp, hb⟩, hz, hk⟩, st⟩ := hr T hT X
  cases hv
  rw [h0] at hz hk
  obtain ⟨t2, a1, b1⟩ := kk _ S' T'.heap (locs ++ L) hp (by rw [e1]; exact hb)
    ⟨Nat.le_trans hS.1 (by rw [e1]; exact hz), fun q h1 h2 => by rw [e1, hk q (Nat.lt_of_lt_of_le h1 hS.1) h2]; exact hS.2.1 q h1 h2, fun q hq => by
      rcases List.mem_append.mp hq with h | h
      · exact hS.2.2 q h
      · exact hL q h⟩ T' rfl X'
  exact ⟨t2, st t2 a1, b1⟩
theorem sj_inOf {D : va_G} {cy : Nat → ClassId} {A : Nat → Prop} {S : sj_St} {s U : State} {H : Heap} {locs : List Loc} (hK : va_K D vwCl (sj_tys cy) s) (hAm : sj_Am A s s.heap) (hS : va_S A s.heap H locs) (h1 : sj_HP D cy A S H) (hU : U.heap = H) (hW : s.WarmedH U.vm) : sj_In D cy A S H.size U := ⟨by rw [hU], by rw [hU]; exact h1, va_K.moved hW.alike hK, sj_Am_warm hW (by rw [hU]; exact sj_Am_kept hAm hS.2.1)⟩
def sj_is (S : sj_St) (b : Nat) (C : String) : Prop := ∃ (ci : Nat) (r : vw_C), sj_kd S b = some ci ∧ vwCl[ci]? = some r ∧ r.1 = C ∧ ci < 8
theorem sj_recv2 {D : va_G} {cy : Nat → ClassId} {A : Nat → Prop} {S : sj_St} {H : Heap} {s : State} {b : Nat} {C : String} (hK : va_K D vwCl (sj_tys cy) s) (h : sj_HP D cy A S H) (hb : sj_is S b C) : ∃ cell : Cell, H[b]? = some cell ∧ cell.vm.isStatics = false ∧ s.vm.findClass C = some cell.cls := by
  obtain ⟨ci, r, h1, h2, h3, h4⟩ := hb
  rw [← h3]
  exact sj_kd_of hK h h1 h2 h4
theorem sj_callV {X : sj_X} {M N : sj_M} (C : sj_C X M) {S : sj_St} {cl sl : Nat} {L : List (Option Value)} {pc idx n : Nat} {b : Nat} {As st rest : List Value} {Post : Option Value → sj_St → Prop} (q : Nat) (hq : pc + 3 = q) (hd : decode M.2.1 pc = .ok (.invokevirtual idx, 3)) (hV : sj_V M.1.cls idx N n) (hfit : sj_fit M N cl sl = true) (hM : sj_Ctr X.2.1 N (.ref b :: As) S Post) (hst : st = As.reverse ++ .ref b :: rest) (hn : As.length = n) (hcat : Nat.ble (rest.map fun v => v.category).sum 8 = true) (hb8 : sj_is S b N.1.cls) (kk : ∀ (v : Option Value) (S' : sj_St), Post v S' → sj_G X S' (cl + N.2.2.2.2.2.2.1) (sl + N.2.2.2.2.2.2.2) L q (v.toList ++ rest)) : sj_G X S cl sl L pc st := by
  have hF := sj_fit_of hfit
  obtain ⟨p, l, e, R, s, m, args, below, meth, c, D, cy, A, nL, Q⟩ := X
  obtain ⟨ym, cc, nL0, ret, fr, lo, mc, ms⟩ := M
  obtain ⟨hx, hb, ⟨hml, hnL⟩, hown, hts, ⟨hlk, hret, hnm⟩, hK, hAm, hA, hRR⟩ := C
  obtain ⟨y2, cc2, nL2, ret2, fr2, lo2, mc2, ms2⟩ := N
  subst hq
  subst hst
  obtain ⟨hlink, hinst, hsel, hini, hcode, hno, hpar⟩ := hV
  subst hRR
  intro H locs ls h1 h2 h3
  have hM1 := hM D cy A H.size (fun q h => hA q (Nat.le_trans h2.1 h))
  have hG := sj_good y2 cc2 nL2 ret2 hcode
  refine sj_goCall (va_runV (As := As) (rest := rest) ⟨hx, hb, hml, hown, hts⟩ hM1 ⟨(callB_of n hts hG rfl rfl rfl (hts _ hini) (hts _ hlink) ⟨hno.1, hno.2, hpar⟩ ⟨hF.1, hF.2.1⟩), hts _ hinst, hts _ hsel⟩ ⟨sj_blind, sj_recv2 hK h1 hb8, fun U hU hW => ⟨rfl, sj_inOf hK hAm h2 h1 hU hW⟩⟩ rfl hn h3.1 rfl (lv_room (Nat.le_of_ble_eq_true hcat)) hd ⟨hF.2.2.1, hF.2.2.2⟩) h2 (fun v S' H1 locs1 hp hP1 hS1 => kk v S' hp H1 locs1 ls hP1 hS1 h3)
theorem sj_callVN {X : sj_X} {M N : sj_M} (C : sj_C X M) {S : sj_St} {cl sl : Nat} {L : List (Option Value)} {pc idx n : Nat} {b : Nat} {As st rest : List Value} {Post : Option Value → sj_St → Prop} (q : Nat) (hq : pc + 3 = q) (hd : decode M.2.1 pc = .ok (.invokevirtual idx, 3)) (hV : sj_Vn M.1.cls idx N n) (hfit : sj_fit M N cl sl = true) (hM : sj_Ctr X.2.1 N (.ref b :: As) S Post) (hst : st = As.reverse ++ .ref b :: rest) (hn : As.length = n) (hcat : Nat.ble (rest.map fun v => v.category).sum 8 = true) (hb8 : sj_is S b N.1.cls) (kk : ∀ (v : Option Value) (S' : sj_St), Post v S' → sj_G X S' (cl + N.2.2.2.2.2.2.1) (sl + N.2.2.2.2.2.2.2) L q (v.toList ++ rest)) : sj_G X S cl sl L pc st := by
  have hF := sj_fit_of hfit
  obtain ⟨p, l, e, R, s, m, args, below, meth, c, D, cy, A, nL, Q⟩ := X
  obtain ⟨ym, cc, nL0, ret, fr, lo, mc, ms⟩ := M
  obtain ⟨hx, hb, ⟨hml, hnL⟩, hown, hts, ⟨hlk, hret, hnm⟩, hK, hAm, hA, hRR⟩ := C
  obtain ⟨y2, cc2, nL2, ret2, fr2, lo2, mc2, ms2⟩ := N
  subst hq
  subst hst
  obtain ⟨hlink, hinst, hsel, hini, hcode, hno, hpar⟩ := hV
  subst hRR
  intro H locs ls h1 h2 h3
  have hM1 := hM D cy A H.size (fun q h => hA q (Nat.le_trans h2.1 h))
  have hG := sj_good y2 cc2 nL2 ret2 hcode
  refine sj_goCall (va_runVN (As := As) (rest := rest) ⟨hx, hb, hml, hown, hts⟩ hM1 ⟨(va_cnB (host := "SlantOaths") n hts hG rfl rfl rfl (hAm.1 _ hlink) (hts _ hini) ⟨hno.1, hno.2, hpar⟩ ⟨hF.1, hF.2.1⟩), hts _ hinst, hts _ hsel⟩ ⟨sj_blind, sj_recv2 hK h1 hb8, fun U hU hW => ⟨rfl, sj_inOf hK hAm h2 h1 hU hW⟩⟩ rfl hn h3.1 rfl (lv_room (Nat.le_of_ble_eq_true hcat)) hd ⟨hF.2.2.1, hF.2.2.2⟩) h2 (fun v S' H1 locs1 hp hP1 hS1 => kk v S' hp H1 locs1 ls hP1 hS1 h3)
theorem sj_callS {X : sj_X} {M N : sj_M} (C : sj_C X M) {S : sj_St} {cl sl : Nat} {L : List (Option Value)} {pc idx n : Nat} {As st rest : List Value} {Post : Option Value → sj_St → Prop} (q : Nat) (hq : pc + 3 = q) (hd : decode M.2.1 pc = .ok (.invokestatic idx, 3)) (hV : sj_Vs M.1.cls idx N n) (hfit : sj_fit M N cl sl = true) (hM : sj_Ctr X.2.1 N (As) S Post) (hst : st = As.reverse ++ rest) (hn : As.length = n) (hcat : Nat.ble (rest.map fun v => v.category).sum 8 = true) (kk : ∀ (v : Option Value) (S' : sj_St), Post v S' → sj_G X S' (cl + N.2.2.2.2.2.2.1) (sl + N.2.2.2.2.2.2.2) L q (v.toList ++ rest)) : sj_G X S cl sl L pc st := by
  have hF := sj_fit_of hfit
  obtain ⟨p, l, e, R, s, m, args, below, meth, c, D, cy, A, nL, Q⟩ := X
  obtain ⟨ym, cc, nL0, ret, fr, lo, mc, ms⟩ := M
  obtain ⟨hx, hb, ⟨hml, hnL⟩, hown, hts, ⟨hlk, hret, hnm⟩, hK, hAm, hA, hRR⟩ := C
  obtain ⟨y2, cc2, nL2, ret2, fr2, lo2, mc2, ms2⟩ := N
  subst hq
  subst hst
  obtain ⟨hlink, hstat, hini, hcode, hno, hpar⟩ := hV
  subst hRR
  intro H locs ls h1 h2 h3
  have hM1 := hM D cy A H.size (fun q h => hA q (Nat.le_trans h2.1 h))
  have hG := sj_good y2 cc2 nL2 ret2 hcode
  refine sj_goCall (va_runS (As := As) (rest := rest) ⟨hx, hb, hml, hown, hts⟩ hM1 ⟨(callB_of n hts hG rfl rfl rfl (hts _ hini) (hts _ hlink) ⟨hno.1, hno.2, hpar⟩ ⟨hF.1, hF.2.1⟩), hts _ hstat⟩ ⟨sj_blind, fun U hU hW => ⟨rfl, sj_inOf hK hAm h2 h1 hU hW⟩⟩ rfl hn h3.1 rfl (lv_room (Nat.le_of_ble_eq_true hcat)) hd ⟨hF.2.2.1, hF.2.2.2⟩) h2 (fun v S' H1 locs1 hp hP1 hS1 => kk v S' hp H1 locs1 ls hP1 hS1 h3)
theorem sj_callSN {X : sj_X} {M N : sj_M} (C : sj_C X M) {S : sj_St} {cl sl : Nat} {L : List (Option Value)} {pc idx n : Nat} {As st rest : List Value} {Post : Option Value → sj_St → Prop} (q : Nat) (hq : pc + 3 = q) (hd : decode M.2.1 pc = .ok (.invokestatic idx, 3)) (hV : sj_Vsn M.1.cls idx N n) (hfit : sj_fit M N cl sl = true) (hM : sj_Ctr X.2.1 N (As) S Post) (hst : st = As.reverse ++ rest) (hn : As.length = n) (hcat : Nat.ble (rest.map fun v => v.category).sum 8 = true) (kk : ∀ (v : Option Value) (S' : sj_St), Post v S' → sj_G X S' (cl + N.2.2.2.2.2.2.1) (sl + N.2.2.2.2.2.2.2) L q (v.toList ++ rest)) : sj_G X S cl sl L pc st := by
  have hF := sj_fit_of hfit
  obtain ⟨p, l, e, R, s, m, args, below, meth, c, D, cy, A, nL, Q⟩ := X
  obtain ⟨ym, cc, nL0, ret, fr, lo, mc, ms⟩ := M
  obtain ⟨hx, hb, ⟨hml, hnL⟩, hown, hts, ⟨hlk, hret, hnm⟩, hK, hAm, hA, hRR⟩ := C
  obtain ⟨y2, cc2, nL2, ret2, fr2, lo2, mc2, ms2⟩ := N
  subst hq
  subst hst
  obtain ⟨hlink, hstat, hini, hcode, hno, hpar⟩ := hV
  subst hRR
  intro H locs ls h1 h2 h3
  have hM1 := hM D cy A H.size (fun q h => hA q (Nat.le_trans h2.1 h))
  have hG := sj_good y2 cc2 nL2 ret2 hcode
  refine sj_goCall (va_runSN (As := As) (rest := rest) ⟨hx, hb, hml, hown, hts⟩ hM1 ⟨(va_cnB (host := "SlantOaths") n hts hG rfl rfl rfl (hAm.1 _ hlink) (hts _ hini) ⟨hno.1, hno.2, hpar⟩ ⟨hF.1, hF.2.1⟩), hts _ hstat, trivial⟩ ⟨sj_blind, fun U hU hW => ⟨rfl, sj_inOf hK hAm h2 h1 hU hW⟩⟩ rfl hn h3.1 rfl (lv_room (Nat.le_of_ble_eq_true hcat)) hd ⟨hF.2.2.1, hF.2.2.2⟩) h2 (fun v S' H1 locs1 hp hP1 hS1 => kk v S' hp H1 locs1 ls hP1 hS1 h3)
theorem sj_callI {X : sj_X} {M N : sj_M} (C : sj_C X M) {S : sj_St} {cl sl : Nat} {L : List (Option Value)} {pc idx n : Nat} {b : Nat} {As st rest : List Value} {Post : Option Value → sj_St → Prop} (q : Nat) (hq : pc + 3 = q) (hd : decode M.2.1 pc = .ok (.invokespecial idx, 3)) (hV : sj_Vi M.1.cls idx N n) (hfit : sj_fit M N cl sl = true) (hM : sj_Ctr X.2.1 N (.ref b :: As) S Post) (hst : st = As.reverse ++ .ref b :: rest) (hn : As.length = n) (hcat : Nat.ble (rest.map fun v => v.category).sum 8 = true) (hini1 : N.1.name = "<init>") (hret1 : N.2.2.2.1 = none) (kk : ∀ (v : Option Value) (S' : sj_St), Post v S' → sj_G X S' (cl + N.2.2.2.2.2.2.1) (sl + N.2.2.2.2.2.2.2) L q (v.toList ++ rest)) : sj_G X S cl sl L pc st := by
  have hF := sj_fit_of hfit
  obtain ⟨p, l, e, R, s, m, args, below, meth, c, D, cy, A, nL, Q⟩ := X
  obtain ⟨ym, cc, nL0, ret, fr, lo, mc, ms⟩ := M
  obtain ⟨hx, hb, ⟨hml, hnL⟩, hown, hts, ⟨hlk, hret, hnm⟩, hK, hAm, hA, hRR⟩ := C
  obtain ⟨y2, cc2, nL2, ret2, fr2, lo2, mc2, ms2⟩ := N
  subst hq
  dsimp only at hret1
  subst hret1
  subst hst
  obtain ⟨hlink, hinst, hini, hcode, hno, hpar⟩ := hV
  subst hRR
  intro H locs ls h1 h2 h3
  have hM1 := hM D cy A H.size (fun q h => hA q (Nat.le_trans h2.1 h))
  have hG := sj_good y2 cc2 nL2 none hcode
  refine sj_goCall (va_runI (As := As) (rest := rest) ⟨hx, hb, hml, hown, hts⟩ hM1 ⟨(callB_of n hts hG rfl rfl rfl (hts _ hini) (hts _ hlink) ⟨hno.1, hno.2, hpar⟩ ⟨hF.1, hF.2.1⟩), hini1, hts _ hinst⟩ ⟨sj_blind, fun U hU hW => ⟨rfl, sj_inOf hK hAm h2 h1 hU hW⟩⟩ rfl hn h3.1 rfl (lv_room (Nat.le_of_ble_eq_true hcat)) hd ⟨hF.2.2.1, hF.2.2.2⟩) h2 (fun v S' H1 locs1 hp hP1 hS1 => kk v S' hp H1 locs1 ls hP1 hS1 h3)
theorem sj_callIN {X : sj_X} {M N : sj_M} (C : sj_C X M) {S : sj_St} {cl sl : Nat} {L : List (Option Value)} {pc idx n : Nat} {b : Nat} {As st rest : List Value} {Post : Option Value → sj_St → Prop} (q : Nat) (hq : pc + 3 = q) (hd : decode M.2.1 pc = .ok (.invokespecial idx, 3)) (hV : sj_Vin M.1.cls idx N n) (hfit : sj_fit M N cl sl = true) (hM : sj_Ctr X.2.1 N (.ref b :: As) S Post) (hst : st = As.reverse ++ .ref b :: rest) (hn : As.length = n) (hcat : Nat.ble (rest.map fun v => v.category).sum 8 = true) (hini1 : N.1.name = "<init>") (hret1 : N.2.2.2.1 = none) (kk : ∀ (v : Option Value) (S' : sj_St), Post v S' → sj_G X S' (cl + N.2.2.2.2.2.2.1) (sl + N.2.2.2.2.2.2.2) L q (v.toList ++ rest)) : sj_G X S cl sl L pc st := by
  have hF := sj_fit_of hfit
  obtain ⟨p, l, e, R, s, m, args, below, meth, c, D, cy, A, nL, Q⟩ := X
  obtain ⟨ym, cc, nL0, ret, fr, lo, mc, ms⟩ := M
  obtain ⟨hx, hb, ⟨hml, hnL⟩, hown, hts, ⟨hlk, hret, hnm⟩, hK, hAm, hA, hRR⟩ := C
  obtain ⟨y2, cc2, nL2, ret2, fr2, lo2, mc2, ms2⟩ := N
  subst hq
  dsimp only at hret1
  subst hret1
  subst hst
  obtain ⟨hlink, hinst, hini, hcode, hno, hpar⟩ := hV
  subst hRR
  intro H locs ls h1 h2 h3
  have hM1 := hM D cy A H.size (fun q h => hA q (Nat.le_trans h2.1 h))
  have hG := sj_good y2 cc2 nL2 none hcode
  refine sj_goCall (va_runIN (As := As) (rest := rest) ⟨hx, hb, hml, hown, hts⟩ hM1 ⟨(va_cnB (host := "SlantOaths") n hts hG rfl rfl rfl (hAm.1 _ hlink) (hts _ hini) ⟨hno.1, hno.2, hpar⟩ ⟨hF.1, hF.2.1⟩), hini1, hts _ hinst⟩ ⟨sj_blind, fun U hU hW => ⟨rfl, sj_inOf hK hAm h2 h1 hU hW⟩⟩ rfl hn h3.1 rfl (lv_room (Nat.le_of_ble_eq_true hcat)) hd ⟨hF.2.2.1, hF.2.2.2⟩) h2 (fun v S' H1 locs1 hp hP1 hS1 => kk v S' hp H1 locs1 ls hP1 hS1 h3)
-- ===== answers that are one value over one state =====
def sj_eq (r : Option Value) (S2 : sj_St) : Option Value → sj_St → Prop := fun v S' => v = r ∧ S' = S2
theorem sj_iret {X : sj_X} {M : sj_M} (C : sj_C X M) {S : sj_St} {cl sl : Nat} {L : List (Option Value)} {pc : Nat} {Post : Option Value → sj_St → Prop} {v : Int32} (hR : sj_R X M Post) (hret9 : M.2.2.2.1 = some .int) (hfit : (Nat.ble cl M.2.2.2.2.2.2.1 && Nat.ble sl M.2.2.2.2.2.2.2) = true) (hd : decode M.2.1 pc = .ok (.ireturn, 1)) (hp : Post (some (.int v)) S) : sj_G X S cl sl L pc [.int v] := by
  obtain ⟨p, l, e, R, s, m, args, below, meth, c, D, cy, A, nL, Q⟩ := X
  obtain ⟨ym, cc, nL0, ret, fr, lo, mc, ms⟩ := M
  obtain ⟨hx, hb, ⟨hml, hnL⟩, hown, hts, ⟨hlk, hret, hnm⟩, hK, hAm, hA, hRR⟩ := C
  intro H locs ls h1 h2 h3
  dsimp only at hret9 hfit
  subst hret9
  rw [Bool.and_eq_true] at hfit
  have hR' : Q = MQ below (sj_Qc D cy A Post) args s mc ms A := hR
  subst hR'
  refine W.widen (k := mc) (n := ms) (Nat.le_of_ble_eq_true hfit.1) (Nat.le_of_ble_eq_true hfit.2) ?_
  exact W.iret hx hb hret (fun t ht hW => ⟨⟨_, S, rfl, hp, by rw [ht]; exact h1⟩, h2.F ht⟩) h2.2.2 hd hlk
theorem sj_lret {X : sj_X} {M : sj_M} (C : sj_C X M) {S : sj_St} {cl sl : Nat} {L : List (Option Value)} {pc : Nat} {Post : Option Value → sj_St → Prop} {v : Int64} (hR : sj_R X M Post) (hret9 : M.2.2.2.1 = some .long) (hfit : (Nat.ble cl M.2.2.2.2.2.2.1 && Nat.ble sl M.2.2.2.2.2.2.2) = true) (hd : decode M.2.1 pc = .ok (.lreturn, 1)) (hp : Post (some (.long v)) S) : sj_G X S cl sl L pc [.long v] := by
  obtain ⟨p, l, e, R, s, m, args, below, meth, c, D, cy, A, nL, Q⟩ := X
  obtain ⟨ym, cc, nL0, ret, fr, lo, mc, ms⟩ := M
  obtain ⟨hx, hb, ⟨hml, hnL⟩, hown, hts, ⟨hlk, hret, hnm⟩, hK, hAm, hA, hRR⟩ := C
  intro H locs ls h1 h2 h3
  dsimp only at hret9 hfit
  subst hret9
  rw [Bool.and_eq_true] at hfit
  have hR' : Q = MQ below (sj_Qc D cy A Post) args s mc ms A := hR
  subst hR'
  refine W.widen (k := mc) (n := ms) (Nat.le_of_ble_eq_true hfit.1) (Nat.le_of_ble_eq_true hfit.2) ?_
  exact W.lret hx hb hret (fun t ht hW => ⟨⟨_, S, rfl, hp, by rw [ht]; exact h1⟩, h2.F ht⟩) h2.2.2 hd hlk
theorem sj_dret {X : sj_X} {M : sj_M} (C : sj_C X M) {S : sj_St} {cl sl : Nat} {L : List (Option Value)} {pc : Nat} {Post : Option Value → sj_St → Prop} {v : UInt64} (hR : sj_R X M Post) (hret9 : M.2.2.2.1 = some .double) (hfit : (Nat.ble cl M.2.2.2.2.2.2.1 && Nat.ble sl M.2.2.2.2.2.2.2) = true) (hd : decode M.2.1 pc = .ok (.dreturn, 1)) (hp : Post (some (.double v)) S) : sj_G X S cl sl L pc [.double v] := by
  obtain ⟨p, l, e, R, s, m, args, below, meth, c, D, cy, A, nL, Q⟩ := X
  obtain ⟨ym, cc, nL0, ret, fr, lo, mc, ms⟩ := M
  obtain ⟨hx, hb, ⟨hml, hnL⟩, hown, hts, ⟨hlk, hret, hnm⟩, hK, hAm, hA, hRR⟩ := C
  intro H locs ls h1 h2 h3
  dsimp only at hret9 hfit
  subst hret9
  rw [Bool.and_eq_true] at hfit
  have hR' : Q = MQ below (sj_Qc D cy A Post) args s mc ms A := hR
  subst hR'
  refine W.widen (k := mc) (n := ms) (Nat.le_of_ble_eq_true hfit.1) (Nat.le_of_ble_eq_true hfit.2) ?_
  exact W.dret hx hb hret (fun t ht hW => ⟨⟨_, S, rfl, hp, by rw [ht]; exact h1⟩, h2.F ht⟩) h2.2.2 hd hlk
theorem sj_zret {X : sj_X} {M : sj_M} (C : sj_C X M) {S : sj_St} {cl sl : Nat} {L : List (Option Value)} {pc : Nat} {Post : Option Value → sj_St → Prop} {v : Int32} (hR : sj_R X M Post) (hret9 : M.2.2.2.1 = some .boolean) (hv : narrow .boolean (.int v) = .int v) (hfit : (Nat.ble cl M.2.2.2.2.2.2.1 && Nat.ble sl M.2.2.2.2.2.2.2) = true) (hd : decode M.2.1 pc = .ok (.ireturn, 1)) (hp : Post (some (.int v)) S) : sj_G X S cl sl L pc [.int v] := by
  obtain ⟨p, l, e, R, s, m, args, below, meth, c, D, cy, A, nL, Q⟩ := X
  obtain ⟨ym, cc, nL0, ret, fr, lo, mc, ms⟩ := M
  obtain ⟨hx, hb, ⟨hml, hnL⟩, hown, hts, ⟨hlk, hret, hnm⟩, hK, hAm, hA, hRR⟩ := C
  intro H locs ls h1 h2 h3
  dsimp only at hret9 hfit
  subst hret9
  rw [Bool.and_eq_true] at hfit
  have hR' : Q = MQ below (sj_Qc D cy A Post) args s mc ms A := hR
  subst hR'
  refine W.widen (k := mc) (n := ms) (Nat.le_of_ble_eq_true hfit.1) (Nat.le_of_ble_eq_true hfit.2) ?_
  exact W.zret hx hb hret hv (fun t ht hW => ⟨⟨_, S, rfl, hp, by rw [ht]; exact h1⟩, h2.F ht⟩) h2.2.2 hd hlk
theorem sj_vret {X : sj_X} {M : sj_M} (C : sj_C X M) {S : sj_St} {cl sl : Nat} {L : List (Option Value)} {pc : Nat} {Post : Option Value → sj_St → Prop} (hR : sj_R X M Post) (hret9 : M.2.2.2.1 = none) (hfit : (Nat.ble cl M.2.2.2.2.2.2.1 && Nat.ble sl M.2.2.2.2.2.2.2) = true) (hd : decode M.2.1 pc = .ok (.return_, 1)) (hp : Post none S) : sj_G X S cl sl L pc [] := by
  obtain ⟨p, l, e, R, s, m, args, below, meth, c, D, cy, A, nL, Q⟩ := X
  obtain ⟨ym, cc, nL0, ret, fr, lo, mc, ms⟩ := M
  obtain ⟨hx, hb, ⟨hml, hnL⟩, hown, hts, ⟨hlk, hret, hnm⟩, hK, hAm, hA, hRR⟩ := C
  intro H locs ls h1 h2 h3
  dsimp only at hret9 hfit
  subst hret9
  rw [Bool.and_eq_true] at hfit
  have hR' : Q = MQ below (sj_Qc D cy A Post) args s mc ms A := hR
  subst hR'
  refine W.widen (k := mc) (n := ms) (Nat.le_of_ble_eq_true hfit.1) (Nat.le_of_ble_eq_true hfit.2) ?_
  exact W.vret hx hb hret (fun t ht hW => ⟨⟨_, S, rfl, hp, by rw [ht]; exact h1⟩, h2.F ht⟩) h2.2.2 hd hlk
theorem sj_aret {X : sj_X} {M : sj_M} (C : sj_C X M) {S : sj_St} {cl sl : Nat} {L : List (Option Value)} {pc : Nat} {Post : Option Value → sj_St → Prop} {o : Option Nat} {rt : FieldType} (hR : sj_R X M Post) (hret9 : M.2.2.2.1 = some rt) (hrt : (∃ n, rt = .object n) ∨ ∃ t, rt = .array t) (hfit : (Nat.ble cl M.2.2.2.2.2.2.1 && Nat.ble sl M.2.2.2.2.2.2.2) = true) (hd : decode M.2.1 pc = .ok (.areturn, 1)) (hp : Post (some (va_rf o)) S) : sj_G X S cl sl L pc [va_rf o] := by
  obtain ⟨p, l, e, R, s, m, args, below, meth, c, D, cy, A, nL, Q⟩ := X
  obtain ⟨ym, cc, nL0, ret, fr, lo, mc, ms⟩ := M
  obtain ⟨hx, hb, ⟨hml, hnL⟩, hown, hts, ⟨hlk, hret, hnm⟩, hK, hAm, hA, hRR⟩ := C
  intro H locs ls h1 h2 h3
  dsimp only at hret9 hfit
  subst hret9
  rw [Bool.and_eq_true] at hfit
  have hR' : Q = MQ below (sj_Qc D cy A Post) args s mc ms A := hR
  subst hR'
  refine W.widen (k := mc) (n := ms) (Nat.le_of_ble_eq_true hfit.1) (Nat.le_of_ble_eq_true hfit.2) ?_
  exact W.aret hx hb hret hrt (by cases o with | none => exact Or.inl rfl | some a => exact Or.inr ⟨a, rfl⟩) (fun t ht hW => ⟨⟨_, S, rfl, hp, by rw [ht]; exact h1⟩, h2.F ht⟩) h2.2.2 hd hlk
theorem sj_callVd {X : sj_X} {M N : sj_M} (C : sj_C X M) {S S2 : sj_St} {cl sl : Nat} {L : List (Option Value)} {pc idx n : Nat} {b : Nat} {r : Value} {As st rest : List Value} (q : Nat) (hq : pc + 3 = q) (hd : decode M.2.1 pc = .ok (.invokevirtual idx, 3)) (hV : sj_V M.1.cls idx N n) (hfit : sj_fit M N cl sl = true) (hM : sj_Ctr X.2.1 N (.ref b :: As) S (sj_eq (some r) S2)) (hst : st = As.reverse ++ .ref b :: rest) (hn : As.length = n) (hcat : Nat.ble (rest.map fun v => v.category).sum 8 = true) (hb8 : sj_is S b N.1.cls) (h00 : N.2.2.2.2.2.2.1 = 0 ∧ N.2.2.2.2.2.2.2 = 0) (kk : sj_G X S2 cl sl L q (r :: rest)) : sj_G X S cl sl L pc st := by
  refine sj_callV C q hq hd hV hfit hM hst hn hcat hb8 (fun v S' hp => ?_)
  obtain ⟨rfl, rfl⟩ := hp
  rw [h00.1, h00.2]
  exact kk
theorem sj_callVv {X : sj_X} {M N : sj_M} (C : sj_C X M) {S S2 : sj_St} {cl sl : Nat} {L : List (Option Value)} {pc idx n : Nat} {b : Nat} {As st rest : List Value} (q : Nat) (hq : pc + 3 = q) (hd : decode M.2.1 pc = .ok (.invokevirtual idx, 3)) (hV : sj_V M.1.cls idx N n) (hfit : sj_fit M N cl sl = true) (hM : sj_Ctr X.2.1 N (.ref b :: As) S (sj_eq none S2)) (hst : st = As.reverse ++ .ref b :: rest) (hn : As.length = n) (hcat : Nat.ble (rest.map fun v => v.category).sum 8 = true) (hb8 : sj_is S b N.1.cls) (h00 : N.2.2.2.2.2.2.1 = 0 ∧ N.2.2.2.2.2.2.2 = 0) (kk : sj_G X S2 cl sl L q (rest)) : sj_G X S cl sl L pc st := by
  refine sj_callV C q hq hd hV hfit hM hst hn hcat hb8 (fun v S' hp => ?_)
  obtain ⟨rfl, rfl⟩ := hp
  rw [h00.1, h00.2]
  exact kk
theorem sj_callVNd {X : sj_X} {M N : sj_M} (C : sj_C X M) {S S2 : sj_St} {cl sl : Nat} {L : List (Option Value)} {pc idx n : Nat} {b : Nat} {r : Value} {As st rest : List Value} (q : Nat) (hq : pc + 3 = q) (hd : decode M.2.1 pc = .ok (.invokevirtual idx, 3)) (hV : sj_Vn M.1.cls idx N n) (hfit : sj_fit M N cl sl = true) (hM : sj_Ctr X.2.1 N (.ref b :: As) S (sj_eq (some r) S2)) (hst : st = As.reverse ++ .ref b :: rest) (hn : As.length = n) (hcat : Nat.ble (rest.map fun v => v.category).sum 8 = true) (hb8 : sj_is S b N.1.cls) (h00 : N.2.2.2.2.2.2.1 = 0 ∧ N.2.2.2.2.2.2.2 = 0) (kk : sj_G X S2 cl sl L q (r :: rest)) : sj_G X S cl sl L pc st := by
  refine sj_callVN C q hq hd hV hfit hM hst hn hcat hb8 (fun v S' hp => ?_)
  obtain ⟨rfl, rfl⟩ := hp
  rw [h00.1, h00.2]
  exact kk
theorem sj_callVNv {X : sj_X} {M N : sj_M} (C : sj_C X M) {S S2 : sj_St} {cl sl : Nat} {L : List (Option Value)} {pc idx n : Nat} {b : Nat} {As st rest : List Value} (q : Nat) (hq : pc + 3 = q) (hd : decode M.2.1 pc = .ok (.invokevirtual idx, 3)) (hV : sj_Vn M.1.cls idx N n) (hfit : sj_fit M N cl sl = true) (hM : sj_Ctr X.2.1 N (.ref b :: As) S (sj_eq none S2)) (hst : st = As.reverse ++ .ref b :: rest) (hn : As.length = n) (hcat : Nat.ble (rest.map fun v => v.category).sum 8 = true) (hb8 : sj_is S b N.1.cls) (h00 : N.2.2.2.2.2.2.1 = 0 ∧ N.2.2.2.2.2.2.2 = 0) (kk : sj_G X S2 cl sl L q (rest)) : sj_G X S cl sl L pc st := by
  refine sj_callVN C q hq hd hV hfit hM hst hn hcat hb8 (fun v S' hp => ?_)
  obtain ⟨rfl, rfl⟩ := hp
  rw [h00.1, h00.2]
  exact kk
theorem sj_callSd {X : sj_X} {M N : sj_M} (C : sj_C X M) {S S2 : sj_St} {cl sl : Nat} {L : List (Option Value)} {pc idx n : Nat} {r : Value} {As st rest : List Value} (q : Nat) (hq : pc + 3 = q) (hd : decode M.2.1 pc = .ok (.invokestatic idx, 3)) (hV : sj_Vs M.1.cls idx N n) (hfit : sj_fit M N cl sl = true) (hM : sj_Ctr X.2.1 N (As) S (sj_eq (some r) S2)) (hst : st = As.reverse ++ rest) (hn : As.length = n) (hcat : Nat.ble (rest.map fun v => v.category).sum 8 = true) (h00 : N.2.2.2.2.2.2.1 = 0 ∧ N.2.2.2.2.2.2.2 = 0) (kk : sj_G X S2 cl sl L q (r :: rest)) : sj_G X S cl sl L pc st := by
  refine sj_callS C q hq hd hV hfit hM hst hn hcat (fun v S' hp => ?_)
  obtain ⟨rfl, rfl⟩ := hp
  rw [h00.1, h00.2]
  exact kk
theorem sj_callSv {X : sj_X} {M N : sj_M} (C : sj_C X M) {S S2 : sj_St} {cl sl : Nat} {L : List (Option Value)} {pc idx n : Nat} {As st rest : List Value} (q : Nat) (hq : pc + 3 = q) (hd : decode M.2.1 pc = .ok (.invokestatic idx, 3)) (hV : sj_Vs M.1.cls idx N n) (hfit : sj_fit M N cl sl = true) (hM : sj_Ctr X.2.1 N (As) S (sj_eq none S2)) (hst : st = As.reverse ++ rest) (hn : As.length = n) (hcat : Nat.ble (rest.map fun v => v.category).sum 8 = true) (h00 : N.2.2.2.2.2.2.1 = 0 ∧ N.2.2.2.2.2.2.2 = 0) (kk : sj_G X S2 cl sl L q (rest)) : sj_G X S cl sl L pc st := by
  refine sj_callS C q hq hd hV hfit hM hst hn hcat (fun v S' hp => ?_)
  obtain ⟨rfl, rfl⟩ := hp
  rw [h00.1, h00.2]
  exact kk
theorem sj_callSNd {X : sj_X} {M N : sj_M} (C : sj_C X M) {S S2 : sj_St} {cl sl : Nat} {L : List (Option Value)} {pc idx n : Nat} {r : Value} {As st rest : List Value} (q : Nat) (hq : pc + 3 = q) (hd : decode M.2.1 pc = .ok (.invokestatic idx, 3)) (hV : sj_Vsn M.1.cls idx N n) (hfit : sj_fit M N cl sl = true) (hM : sj_Ctr X.2.1 N (As) S (sj_eq (some r) S2)) (hst : st = As.reverse ++ rest) (hn : As.length = n) (hcat : Nat.ble (rest.map fun v => v.category).sum 8 = true) (h00 : N.2.2.2.2.2.2.1 = 0 ∧ N.2.2.2.2.2.2.2 = 0) (kk : sj_G X S2 cl sl L q (r :: rest)) : sj_G X S cl sl L pc st := by
  refine sj_callSN C q hq hd hV hfit hM hst hn hcat (fun v S' hp => ?_)
  obtain ⟨rfl, rfl⟩ := hp
  rw [h00.1, h00.2]
  exact kk
theorem sj_callSNv {X : sj_X} {M N : sj_M} (C : sj_C X M) {S S2 : sj_St} {cl sl : Nat} {L : List (Option Value)} {pc idx n : Nat} {As st rest : List Value} (q : Nat) (hq : pc + 3 = q) (hd : decode M.2.1 pc = .ok (.invokestatic idx, 3)) (hV : sj_Vsn M.1.cls idx N n) (hfit : sj_fit M N cl sl = true) (hM : sj_Ctr X.2.1 N (As) S (sj_eq none S2)) (hst : st = As.reverse ++ rest) (hn : As.length = n) (hcat : Nat.ble (rest.map fun v => v.category).sum 8 = true) (h00 : N.2.2.2.2.2.2.1 = 0 ∧ N.2.2.2.2.2.2.2 = 0) (kk : sj_G X S2 cl sl L q (rest)) : sj_G X S cl sl L pc st := by
  refine sj_callSN C q hq hd hV hfit hM hst hn hcat (fun v S' hp => ?_)
  obtain ⟨rfl, rfl⟩ := hp
  rw [h00.1, h00.2]
  exact kk
theorem sj_callId {X : sj_X} {M N : sj_M} (C : sj_C X M) {S S2 : sj_St} {cl sl : Nat} {L : List (Option Value)} {pc idx n : Nat} {b : Nat} {r : Value} {As st rest : List Value} (q : Nat) (hq : pc + 3 = q) (hd : decode M.2.1 pc = .ok (.invokespecial idx, 3)) (hV : sj_Vi M.1.cls idx N n) (hfit : sj_fit M N cl sl = true) (hM : sj_Ctr X.2.1 N (.ref b :: As) S (sj_eq (some r) S2)) (hst : st = As.reverse ++ .ref b :: rest) (hn : As.length = n) (hcat : Nat.ble (rest.map fun v => v.category).sum 8 = true) (hini1 : N.1.name = "<init>") (hret1 : N.2.2.2.1 = none) (h00 : N.2.2.2.2.2.2.1 = 0 ∧ N.2.2.2.2.2.2.2 = 0) (kk : sj_G X S2 cl sl L q (r :: rest)) : sj_G X S cl sl L pc st := by
  refine sj_callI C q hq hd hV hfit hM hst hn hcat hini1 hret1 (fun v S' hp => ?_)
  obtain ⟨rfl, rfl⟩ := hp
  rw [h00.1, h00.2]
  exact kk
theorem sj_callIv {X : sj_X} {M N : sj_M} (C : sj_C X M) {S S2 : sj_St} {cl sl : Nat} {L : List (Option Value)} {pc idx n : Nat} {b : Nat} {As st rest : List Value} (q : Nat) (hq : pc + 3 = q) (hd : decode M.2.1 pc = .ok (.invokespecial idx, 3)) (hV : sj_Vi M.1.cls idx N n) (hfit : sj_fit M N cl sl = true) (hM : sj_Ctr X.2.1 N (.ref b :: As) S (sj_eq none S2)) (hst : st = As.reverse ++ .ref b :: rest) (hn : As.length = n) (hcat : Nat.ble (rest.map fun v => v.category).sum 8 = true) (hini1 : N.1.name = "<init>") (hret1 : N.2.2.2.1 = none) (h00 : N.2.2.2.2.2.2.1 = 0 ∧ N.2.2.2.2.2.2.2 = 0) (kk : sj_G X S2 cl sl L q (rest)) : sj_G X S cl sl L pc st := by
  refine sj_callI C q hq hd hV hfit hM hst hn hcat hini1 hret1 (fun v S' hp => ?_)
  obtain ⟨rfl, rfl⟩ := hp
  rw [h00.1, h00.2]
  exact kk
theorem sj_callINd {X : sj_X} {M N : sj_M} (C : sj_C X M) {S S2 : sj_St} {cl sl : Nat} {L : List (Option Value)} {pc idx n : Nat} {b : Nat} {r : Value} {As st rest : List Value} (q : Nat) (hq : pc + 3 = q) (hd : decode M.2.1 pc = .ok (.invokespecial idx, 3)) (hV : sj_Vin M.1.cls idx N n) (hfit : sj_fit M N cl sl = true) (hM : sj_Ctr X.2.1 N (.ref b :: As) S (sj_eq (some r) S2)) (hst : st = As.reverse ++ .ref b :: rest) (hn : As.length = n) (hcat : Nat.ble (rest.map fun v => v.category).sum 8 = true) (hini1 : N.1.name = "<init>") (hret1 : N.2.2.2.1 = none) (h00 : N.2.2.2.2.2.2.1 = 0 ∧ N.2.2.2.2.2.2.2 = 0) (kk : sj_G X S2 cl sl L q (r :: rest)) : sj_G X S cl sl L pc st := by
  refine sj_callIN C q hq hd hV hfit hM hst hn hcat hini1 hret1 (fun v S' hp => ?_)
  obtain ⟨rfl, rfl⟩ := hp
  rw [h00.1, h00.2]
  exact kk
theorem sj_callINv {X : sj_X} {M N : sj_M} (C : sj_C X M) {S S2 : sj_St} {cl sl : Nat} {L : List (Option Value)} {pc idx n : Nat} {b : Nat} {As st rest : List Value} (q : Nat) (hq : pc + 3 = q) (hd : decode M.2.1 pc = .ok (.invokespecial idx, 3)) (hV : sj_Vin M.1.cls idx N n) (hfit : sj_fit M N cl sl = true) (hM : sj_Ctr X.2.1 N (.ref b :: As) S (sj_eq none S2)) (hst : st = As.reverse ++ .ref b :: rest) (hn : As.length = n) (hcat : Nat.ble (rest.map fun v => v.category).sum 8 = true) (hini1 : N.1.name = "<init>") (hret1 : N.2.2.2.1 = none) (h00 : N.2.2.2.2.2.2.1 = 0 ∧ N.2.2.2.2.2.2.2 = 0) (kk : sj_G X S2 cl sl L q (rest)) : sj_G X S cl sl L pc st := by
  refine sj_callIN C q hq hd hV hfit hM hst hn hcat hini1 hret1 (fun v S' hp => ?_)
  obtain ⟨rfl, rfl⟩ := hp
  rw [h00.1, h00.2]
  exact kk
theorem sj_mmax {X : sj_X} {M : sj_M} (C : sj_C X M) {S : sj_St} {cl sl : Nat} {L : List (Option Value)} {pc : Nat} {rest : List Value} {x y : Int32} {idx : Nat} (q : Nat) (hq : pc + 3 = q) (hd : decode M.2.1 pc = .ok (.invokestatic idx, 3)) (hV : Cond.methodLink M.1.cls idx Lib.Math.max.name ∈ sj_GT ∧ Cond.static Lib.Math.max.name ∈ sj_GT ∧ Cond.initialized "java/lang/Math" ∈ sj_GT ∧ Cond.code Lib.Math.max.name Lib.Math.max.code 2 (some .int) ∈ sj_GT) (hfit : (Nat.ble 1 M.2.2.2.2.1 && (Nat.ble ((rest.map fun v => v.category).sum + 13) M.2.2.2.2.2.1 && (Nat.ble cl M.2.2.2.2.2.2.1 && Nat.ble sl M.2.2.2.2.2.2.2))) = true) (kk : sj_G X S cl sl L q (.int (if x < y then y else x) :: rest)) : sj_G X S cl sl L pc (.int y :: .int x :: rest) := by
  obtain ⟨p, l, e, R, s, m, args, below, meth, c, D, cy, A, nL, Q⟩ := X
  obtain ⟨ym, cc, nL0, ret, fr, lo, mc, ms⟩ := M
  obtain ⟨hx, hb, ⟨hml, hnL⟩, hown, hts, ⟨hlk, hret, hnm⟩, hK, hAm, hA, hRR⟩ := C
  subst hq
  subst hRR
  intro H locs ls h1 h2 h3
  simp only [Bool.and_eq_true] at hfit
  exact va_mmax hx hb (hml.trans h3.1.symm) hown (hts _ hV.1) (hts _ hV.2.1) (hts _ hV.2.2.1) (hts _ hV.2.2.2) (Nat.le_of_ble_eq_true hfit.1) (Nat.le_of_ble_eq_true hfit.2.1) (Nat.le_of_ble_eq_true hfit.2.2.1) (Nat.le_of_ble_eq_true hfit.2.2.2) hd (kk H locs ls h1 h2 h3)
theorem sj_mmin {X : sj_X} {M : sj_M} (C : sj_C X M) {S : sj_St} {cl sl : Nat} {L : List (Option Value)} {pc : Nat} {rest : List Value} {x y : Int32} {idx : Nat} (q : Nat) (hq : pc + 3 = q) (hd : decode M.2.1 pc = .ok (.invokestatic idx, 3)) (hV : Cond.methodLink M.1.cls idx Lib.Math.min.name ∈ sj_GT ∧ Cond.static Lib.Math.min.name ∈ sj_GT ∧ Cond.initialized "java/lang/Math" ∈ sj_GT ∧ Cond.code Lib.Math.min.name Lib.Math.min.code 2 (some .int) ∈ sj_GT) (hfit : (Nat.ble 1 M.2.2.2.2.1 && (Nat.ble ((rest.map fun v => v.category).sum + 13) M.2.2.2.2.2.1 && (Nat.ble cl M.2.2.2.2.2.2.1 && Nat.ble sl M.2.2.2.2.2.2.2))) = true) (kk : sj_G X S cl sl L q (.int (if y < x then y else x) :: rest)) : sj_G X S cl sl L pc (.int y :: .int x :: rest) := by
  obtain ⟨p, l, e, R, s, m, args, below, meth, c, D, cy, A, nL, Q⟩ := X
  obtain ⟨ym, cc, nL0, ret, fr, lo, mc, ms⟩ := M
  obtain ⟨hx, hb, ⟨hml, hnL⟩, hown, hts, ⟨hlk, hret, hnm⟩, hK, hAm, hA, hRR⟩ := C
  subst hq
  subst hRR
  intro H locs ls h1 h2 h3
  simp only [Bool.and_eq_true] at hfit
  exact va_mmin hx hb (hml.trans h3.1.symm) hown (hts _ hV.1) (hts _ hV.2.1) (hts _ hV.2.2.1) (hts _ hV.2.2.2) (Nat.le_of_ble_eq_true hfit.1) (Nat.le_of_ble_eq_true hfit.2.1) (Nat.le_of_ble_eq_true hfit.2.2.1) (Nat.le_of_ble_eq_true hfit.2.2.2) hd (kk H locs ls h1 h2 h3)
theorem sj_mabs {X : sj_X} {M : sj_M} (C : sj_C X M) {S : sj_St} {cl sl : Nat} {L : List (Option Value)} {pc : Nat} {rest : List Value} {x : Int32} {idx : Nat} (q : Nat) (hq : pc + 3 = q) (hd : decode M.2.1 pc = .ok (.invokestatic idx, 3)) (hV : Cond.methodLink M.1.cls idx Lib.Math.abs.name ∈ sj_GT ∧ Cond.static Lib.Math.abs.name ∈ sj_GT ∧ Cond.initialized "java/lang/Math" ∈ sj_GT ∧ Cond.code Lib.Math.abs.name Lib.Math.abs.code 1 (some .int) ∈ sj_GT) (hfit : (Nat.ble 1 M.2.2.2.2.1 && (Nat.ble ((rest.map fun v => v.category).sum + 13) M.2.2.2.2.2.1 && (Nat.ble cl M.2.2.2.2.2.2.1 && Nat.ble sl M.2.2.2.2.2.2.2))) = true) (kk : sj_G X S cl sl L q (.int (if 0 ≤ x then x else 0 - x) :: rest)) : sj_G X S cl sl L pc (.int x :: rest) := by
  obtain ⟨p, l, e, R, s, m, args, below, meth, c, D, cy, A, nL, Q⟩ := X
  obtain ⟨ym, cc, nL0, ret, fr, lo, mc, ms⟩ := M
  obtain ⟨hx, hb, ⟨hml, hnL⟩, hown, hts, ⟨hlk, hret, hnm⟩, hK, hAm, hA, hRR⟩ := C
  subst hq
  subst hRR
  intro H locs ls h1 h2 h3
  simp only [Bool.and_eq_true] at hfit
  exact va_mabs hx hb (hml.trans h3.1.symm) hown (hts _ hV.1) (hts _ hV.2.1) (hts _ hV.2.2.1) (hts _ hV.2.2.2) (Nat.le_of_ble_eq_true hfit.1) (Nat.le_of_ble_eq_true hfit.2.1) (Nat.le_of_ble_eq_true hfit.2.2.1) (Nat.le_of_ble_eq_true hfit.2.2.2) hd (kk H locs ls h1 h2 h3)
/-- one of the two static rows -/
def sj_Tab (X : sj_X) (which : Bool) (t : Nat) : Prop := match X with
  | (_, _, _, _, s, _, _, _, _, _, _, _, A, _, _) => va_T .int t 9 (fun j => .int ((if which then sj_t2 else sj_t1) j)) A s s.heap
theorem sj_getsR {X : sj_X} {M : sj_M} (C : sj_C X M) {S : sj_St} {cl sl : Nat} {L : List (Option Value)} {pc idx : Nat} {rest : List Value} (which : Bool) (q : Nat) (hq : pc + 3 = q) (hd : decode M.2.1 pc = .ok (.getstatic idx, 3)) (hl : Cond.fieldLink M.1.cls idx "SlantOaths" (if which then "MOST_OF_SETTING" else "FIRST_SETTINGS") "[I" ∈ sj_GT ∨ Cond.fieldLinkNest M.1.cls idx "SlantOaths" (if which then "MOST_OF_SETTING" else "FIRST_SETTINGS") "[I" "SlantOaths" ∈ sj_NWl) (kk : ∀ t : Nat, sj_Tab X which t → sj_G X S cl sl L q (.ref t :: rest)) : sj_G X S cl sl L pc rest := by
  obtain ⟨p, l, e, R, s, m, args, below, meth, c, D, cy, A, nL, Q⟩ := X
  obtain ⟨ym, cc, nL0, ret, fr, lo, mc, ms⟩ := M
  obtain ⟨hx, hb, ⟨hml, hnL⟩, hown, hts, ⟨hlk, hret, hnm⟩, hK, hAm, hA, hRR⟩ := C
  subst hq
  intro H locs ls h1 h2 h3
  obtain ⟨t1, t2, z1, z2, z3, z4⟩ := hAm.2
  cases which with
  | false =>
    rcases hl with hl | hl
    · exact va_gets hx hb z1 h2 hown (hts _ hl) (fun _ h => h) hd (kk t1 z2 H locs ls h1 h2 h3)
    · exact va_getsN hx hb z1 h2 hown ((hAm.1 _ hl).use rfl) (fun _ h => h) hd (kk t1 z2 H locs ls h1 h2 h3)
  | true =>
    rcases hl with hl | hl
    · exact va_gets hx hb z3 h2 hown (hts _ hl) (fun _ h => h) hd (kk t2 z4 H locs ls h1 h2 h3)
    · exact va_getsN hx hb z3 h2 hown ((hAm.1 _ hl).use rfl) (fun _ h => h) hd (kk t2 z4 H locs ls h1 h2 h3)
theorem sj_tld {X : sj_X} {M : sj_M} (C : sj_C X M) {S : sj_St} {cl sl : Nat} {L : List (Option Value)} {pc t : Nat} {rest : List Value} {which : Bool} {i : Int32} (q : Nat) (hq : pc + 1 = q) (hd : decode M.2.1 pc = .ok (.iaload, 1)) (hT : sj_Tab X which t) (hi : vp_in i 9) (kk : sj_G X S cl sl L q (.int ((if which then sj_t2 else sj_t1) i.toNatClampNeg) :: rest)) : sj_G X S cl sl L pc (.int i :: .ref t :: rest) := by
  obtain ⟨p, l, e, R, s, m, args, below, meth, c, D, cy, A, nL, Q⟩ := X
  obtain ⟨ym, cc, nL0, ret, fr, lo, mc, ms⟩ := M
  obtain ⟨hx, hb, ⟨hml, hnL⟩, hown, hts, ⟨hlk, hret, hnm⟩, hK, hAm, hA, hRR⟩ := C
  subst hq
  intro H locs ls h1 h2 h3
  cases which with
  | false => exact va_ti hx hb hT h2 hi rfl hd (kk H locs ls h1 h2 h3)
  | true => exact va_ti hx hb hT h2 hi rfl hd (kk H locs ls h1 h2 h3)
theorem sj_tlen {X : sj_X} {M : sj_M} (C : sj_C X M) {S : sj_St} {cl sl : Nat} {L : List (Option Value)} {pc t : Nat} {rest : List Value} {which : Bool} (q : Nat) (hq : pc + 1 = q) (hd : decode M.2.1 pc = .ok (.arraylength, 1)) (hT : sj_Tab X which t) (kk : sj_G X S cl sl L q (.int 9 :: rest)) : sj_G X S cl sl L pc (.ref t :: rest) := by
  obtain ⟨p, l, e, R, s, m, args, below, meth, c, D, cy, A, nL, Q⟩ := X
  obtain ⟨ym, cc, nL0, ret, fr, lo, mc, ms⟩ := M
  obtain ⟨hx, hb, ⟨hml, hnL⟩, hown, hts, ⟨hlk, hret, hnm⟩, hK, hAm, hA, hRR⟩ := C
  subst hq
  intro H locs ls h1 h2 h3
  exact va_tlen hx hb hT h2 rfl hd (kk H locs ls h1 h2 h3)
end
section
theorem wr_all : ∀ w ∈ (wsL_law0_r1 ++ (wsL_law0_r2 ++ (wsL_law0_r3 ++ (wsL_law0_r4 ++ (wsL_law0_r5 ++ (wsL_law0_r6 ++ (wsL_law0_r7 ++ (wsL_law0_r8 ++ (wsL_law0_r9 ++ (wsL_law0_r10 ++ (wsL_law0_r11 ++ (wsL_law0_r12 ++ (wsL_law0_r13 ++ (wsL_law0_r14 ++ (wsL_law0_r15 ++ (wsL_law0_r16 ++ (wsL_law0_r17 ++ (wsL_law0_r18 ++ (wsL_law0_r19 ++ (wsL_law0_r20 ++ (wsL_law0_r21 ++ (wsL_law0_r22 ++ (wsL_law0_r23 ++ (wsL_law0_r24 ++ (wsL_law0_r25 ++ (wsL_law0_r26 ++ (wsL_law0_r27 ++ (wsL_law0_r28 ++ (wsL_law0_r29 ++ (wsL_law0_r30 ++ (wsL_law0_r31 ++ (wsL_law0_r32 ++ (wsL_law0_r33 ++ (wsL_law0_r34 ++ (wsL_law0_r35 ++ (wsL_law0_r36 ++ (wsL_law0_r37 ++ (wsL_law0_r38 ++ (wsL_law0_r39 ++ (wsL_law0_r40 ++ (wsL_law0_r41 ++ (wsL_law0_r42 ++ (wsL_law0_r43 ++ (wsL_law0_r44)))))))))))))))))))))))))))))))))))))))))))), w ∈ wsL_law := fun w h => List.mem_append_left _ (List.mem_append_left _ (List.mem_append_left _ (List.mem_append_left _ (List.mem_append_left _ (List.mem_append_left _ (List.mem_append_left _ (List.mem_append_left _ (List.mem_append_left _ (List.mem_append_left _ (List.mem_append_left _ (List.mem_append_left _ (h))))))))))))
theorem wr_1 : ∀ w ∈ wsL_law0_r1, w ∈ wsL_law := fun w h => wr_all w (List.mem_append_left _ h)
theorem wr_2 : ∀ w ∈ wsL_law0_r2, w ∈ wsL_law := fun w h => wr_all w (List.mem_append_right _ (List.mem_append_left _ h))
theorem wr_3 : ∀ w ∈ wsL_law0_r3, w ∈ wsL_law := fun w h => wr_all w (List.mem_append_right _ (List.mem_append_right _ (List.mem_append_left _ h)))
theorem wr_4 : ∀ w ∈ wsL_law0_r4, w ∈ wsL_law := fun w h => wr_all w (List.mem_append_right _ (List.mem_append_right _ (List.mem_append_right _ (List.mem_append_left _ h))))
theorem wr_5 : ∀ w ∈ wsL_law0_r5, w ∈ wsL_law := fun w h => wr_all w (List.mem_append_right _ (List.mem_append_right _ (List.mem_append_right _ (List.mem_append_right _ (List.mem_append_left _ h)))))
theorem wr_6 : ∀ w ∈ wsL_law0_r6, w ∈ wsL_law := fun w h => wr_all w (List.mem_append_right _ (List.mem_append_right _ (List.mem_append_right _ (List.mem_append_right _ (List.mem_append_right _ (List.mem_append_left _ h))))))
theorem wr_7 : ∀ w ∈ wsL_law0_r7, w ∈ wsL_law := fun w h => wr_all w (List.mem_append_right _ (List.mem_append_right _ (List.mem_append_right _ (List.mem_append_right _ (List.mem_append_right _ (List.mem_append_right _ (List.mem_append_left _ h)))))))
theorem wr_8 : ∀ w ∈ wsL_law0_r8, w ∈ wsL_law := fun w h => wr_all w (List.mem_append_right _ (List.mem_append_right _ (List.mem_append_right _ (List.mem_append_right _ (List.mem_append_right _ (List.mem_append_right _ (List.mem_append_right _ (List.mem_append_left _ h))))))))
theorem wr_9 : ∀ w ∈ wsL_law0_r9, w ∈ wsL_law := fun w h => wr_all w (List.mem_append_right _ (List.mem_append_right _ (List.mem_append_right _ (List.mem_append_right _ (List.mem_append_right _ (List.mem_append_right _ (List.mem_append_right _ (List.mem_append_right _ (List.mem_append_left _ h)))))))))
theorem wr_10 : ∀ w ∈ wsL_law0_r10, w ∈ wsL_law := fun w h => wr_all w (List.mem_append_right _ (List.mem_append_right _ (List.mem_append_right _ (List.mem_append_right _ (List.mem_append_right _ (List.mem_append_right _ (List.mem_append_right _ (List.mem_append_right _ (List.mem_append_right _ (List.mem_append_left _ h))))))))))
theorem wr_11 : ∀ w ∈ wsL_law0_r11, w ∈ wsL_law := fun w h => wr_all w (List.mem_append_right _ (List.mem_append_right _ (List.mem_append_right _ (List.mem_append_right _ (List.mem_append_right _ (List.mem_append_right _ (List.mem_append_right _ (List.mem_append_right _ (List.mem_append_right _ (List.mem_append_right _ (List.mem_append_left _ h)))))))))))
theorem wr_12 : ∀ w ∈ wsL_law0_r12, w ∈ wsL_law := fun w h => wr_all w (List.mem_append_right _ (List.mem_append_right _ (List.mem_append_right _ (List.mem_append_right _ (List.mem_append_right _ (List.mem_append_right _ (List.mem_append_right _ (List.mem_append_right _ (List.mem_append_right _ (List.mem_append_right _ (List.mem_append_right _ (List.mem_append_left _ h))))))))))))
theorem wr_13 : ∀ w ∈ wsL_law0_r13, w ∈ wsL_law := fun w h => wr_all w (List.mem_append_right _ (List.mem_append_right _ (List.mem_append_right _ (List.mem_append_right _ (List.mem_append_right _ (List.mem_append_right _ (List.mem_append_right _ (List.mem_append_right _ (List.mem_append_right _ (List.mem_append_right _ (List.mem_append_right _ (List.mem_append_right _ (List.mem_append_left _ h)))))))))))))
theorem wr_14 : ∀ w ∈ wsL_law0_r14, w ∈ wsL_law := fun w h => wr_all w (List.mem_append_right _ (List.mem_append_right _ (List.mem_append_right _ (List.mem_append_right _ (List.mem_append_right _ (List.mem_append_right _ (List.mem_append_right _ (List.mem_append_right _ (List.mem_append_right _ (List.mem_append_right _ (List.mem_append_right _ (List.mem_append_right _ (List.mem_append_right _ (List.mem_append_left _ h))))))))))))))
theorem wr_15 : ∀ w ∈ wsL_law0_r15, w ∈ wsL_law := fun w h => wr_all w (List.mem_append_right _ (List.mem_append_right _ (List.mem_append_right _ (List.mem_append_right _ (List.mem_append_right _ (List.mem_append_right _ (List.mem_append_right _ (List.mem_append_right _ (List.mem_append_right _ (List.mem_append_right _ (List.mem_append_right _ (List.mem_append_right _ (List.mem_append_right _ (List.mem_append_right _ (List.mem_append_left _ h)))))))))))))))
theorem wr_16 : ∀ w ∈ wsL_law0_r16, w ∈ wsL_law := fun w h => wr_all w (List.mem_append_right _ (List.mem_append_right _ (List.mem_append_right _ (List.mem_append_right _ (List.mem_append_right _ (List.mem_append_right _ (List.mem_append_right _ (List.mem_append_right _ (List.mem_append_right _ (List.mem_append_right _ (List.mem_append_right _ (List.mem_append_right _ (List.mem_append_right _ (List.mem_append_right _ (List.mem_append_right _ (List.mem_append_left _ h))))))))))))))))
theorem wr_17 : ∀ w ∈ wsL_law0_r17, w ∈ wsL_law := fun w h => wr_all w (List.mem_append_right _ (List.mem_append_right _ (List.mem_append_right _ (List.mem_append_right _ (List.mem_append_right _ (List.mem_append_right _ (List.mem_append_right _ (List.mem_append_right _ (List.mem_append_right _ (List.mem_append_right _ (List.mem_append_right _ (List.mem_append_right _ (List.mem_append_right _ (List.mem_append_right _ (List.mem_append_right _ (List.mem_append_right _ (List.mem_append_left _ h)))))))))))))))))
theorem wr_18 : ∀ w ∈ wsL_law0_r18, w ∈ wsL_law := fun w h => wr_all w (List.mem_append_right _ (List.mem_append_right _ (List.mem_append_right _ (List.mem_append_right _ (List.mem_append_right _ (List.mem_append_right _ (List.mem_append_right _ (List.mem_append_right _ (List.mem_append_right _ (List.mem_append_right _ (List.mem_append_right _ (List.mem_append_right _ (List.mem_append_right _ (List.mem_append_right _ (List.mem_append_right _ (List.mem_append_right _ (List.mem_append_right _ (List.mem_append_left _ h))))))))))))))))))
theorem wr_19 : ∀ w ∈ wsL_law0_r19, w ∈ wsL_law := fun w h => wr_all w (List.mem_append_right _ (List.mem_append_right _ (List.mem_append_right _ (List.mem_append_right _ (List.mem_append_right _ (List.mem_append_right _ (List.mem_append_right _ (List.mem_append_right _ (List.mem_append_right _ (List.mem_append_right _ (List.mem_append_right _ (List.mem_append_right _ (List.mem_append_right _ (List.mem_append_right _ (List.mem_append_right _ (List.mem_append_right _ (List.mem_append_right _ (List.mem_append_right _ (List.mem_append_left _ h)))))))))))))))))))
theorem wr_20 : ∀ w ∈ wsL_law0_r20, w ∈ wsL_law := fun w h => wr_all w (List.mem_append_right _ (List.mem_append_right _ (List.mem_append_right _ (List.mem_append_right _ (List.mem_append_right _ (List.mem_append_right _ (List.mem_append_right _ (List.mem_append_right _ (List.mem_append_right _ (List.mem_append_right _ (List.mem_append_right _ (List.mem_append_right _ (List.mem_append_right _ (List.mem_append_right _ (List.mem_append_right _ (List.mem_append_right _ (List.mem_append_right _ (List.mem_append_right _ (List.mem_append_right _ (List.mem_append_left _ h))))))))))))))))))))
theorem wr_21 : ∀ w ∈ wsL_law0_r21, w ∈ wsL_law := fun w h => wr_all w (List.mem_append_right _ (List.mem_append_right _ (List.mem_append_right _ (List.mem_append_right _ (List.mem_append_right _ (List.mem_append_right _ (List.mem_append_right _ (List.mem_append_right _ (List.mem_append_right _ (List.mem_append_right _ (List.mem_append_right _ (List.mem_append_right _ (List.mem_append_right _ (List.mem_append_right _ (List.mem_append_right _ (List.mem_append_right _ (List.mem_append_right _ (List.mem_append_right _ (List.mem_append_right _ (List.mem_append_right _ (List.mem_append_left _ h)))))))))))))))))))))
theorem wr_22 : ∀ w ∈ wsL_law0_r22, w ∈ wsL_law := fun w h => wr_all w (List.mem_append_right _ (List.mem_append_right _ (List.mem_append_right _ (List.mem_append_right _ (List.mem_append_right _ (List.mem_append_right _ (List.mem_append_right _ (List.mem_append_right _ (List.mem_append_right _ (List.mem_append_right _ (List.mem_append_right _ (List.mem_append_right _ (List.mem_append_right _ (List.mem_append_right _ (List.mem_append_right _ (List.mem_append_right _ (List.mem_append_right _ (List.mem_append_right _ (List.mem_append_right _ (List.mem_append_right _ (List.mem_append_right _ (List.mem_append_left _ h))))))))))))))))))))))
theorem wr_23 : ∀ w ∈ wsL_law0_r23, w ∈ wsL_law := fun w h => wr_all w (List.mem_append_right _ (List.mem_append_right _ (List.mem_append_right _ (List.mem_append_right _ (List.mem_append_right _ (List.mem_append_right _ (List.mem_append_right _ (List.mem_append_right _ (List.mem_append_right _ (List.mem_append_right _ (List.mem_append_right _ (List.mem_append_right _ (List.mem_append_right _ (List.mem_append_right _ (List.mem_append_right _ (List.mem_append_right _ (List.mem_append_right _ (List.mem_append_right _ (List.mem_append_right _ (List.mem_append_right _ (List.mem_append_right _ (List.mem_append_right _ (List.mem_append_left _ h)))))))))))))))))))))))
theorem wr_24 : ∀ w ∈ wsL_law0_r24, w ∈ wsL_law := fun w h => wr_all w (List.mem_append_right _ (List.mem_append_right _ (List.mem_append_right _ (List.mem_append_right _ (List.mem_append_right _ (List.mem_append_right _ (List.mem_append_right _ (List.mem_append_right _ (List.mem_append_right _ (List.mem_append_right _ (List.mem_append_right _ (List.mem_append_right _ (List.mem_append_right _ (List.mem_append_right _ (List.mem_append_right _ (List.mem_append_right _ (List.mem_append_right _ (List.mem_append_right _ (List.mem_append_right _ (List.mem_append_right _ (List.mem_append_right _ (List.mem_append_right _ (List.mem_append_right _ (List.mem_append_left _ h))))))))))))))))))))))))
theorem wr_25 : ∀ w ∈ wsL_law0_r25, w ∈ wsL_law := fun w h => wr_all w (List.mem_append_right _ (List.mem_append_right _ (List.mem_append_right _ (List.mem_append_right _ (List.mem_append_right _ (List.mem_append_right _ (List.mem_append_right _ (List.mem_append_right _ (List.mem_append_right _ (List.mem_append_right _ (List.mem_append_right _ (List.mem_append_right _ (List.mem_append_right _ (List.mem_append_right _ (List.mem_append_right _ (List.mem_append_right _ (List.mem_append_right _ (List.mem_append_right _ (List.mem_append_right _ (List.mem_append_right _ (List.mem_append_right _ (List.mem_append_right _ (List.mem_append_right _ (List.mem_append_right _ (List.mem_append_left _ h)))))))))))))))))))))))))
theorem wr_26 : ∀ w ∈ wsL_law0_r26, w ∈ wsL_law := fun w h => wr_all w (List.mem_append_right _ (List.mem_append_right _ (List.mem_append_right _ (List.mem_append_right _ (List.mem_append_right _ (List.mem_append_right _ (List.mem_append_right _ (List.mem_append_right _ (List.mem_append_right _ (List.mem_append_right _ (List.mem_append_right _ (List.mem_append_right _ (List.mem_append_right _ (List.mem_append_right _ (List.mem_append_right _ (List.mem_append_right _ (List.mem_append_right _ (List.mem_append_right _ (List.mem_append_right _ (List.mem_append_right _ (List.mem_append_right _ (List.mem_append_right _ (List.mem_append_right _ (List.mem_append_right _ (List.mem_append_right _ (List.mem_append_left _ h))))))))))))))))))))))))))
theorem wr_27 : ∀ w ∈ wsL_law0_r27, w ∈ wsL_law := fun w h => wr_all w (List.mem_append_right _ (List.mem_append_right _ (List.mem_append_right _ (List.mem_append_right _ (List.mem_append_right _ (List.mem_append_right _ (List.mem_append_right _ (List.mem_append_right _ (List.mem_append_right _ (List.mem_append_right _ (List.mem_append_right _ (List.mem_append_right _ (List.mem_append_right _ (List.mem_append_right _ (List.mem_append_right _ (List.mem_append_right _ (List.mem_append_right _ (List.mem_append_right _ (List.mem_append_right _ (List.mem_append_right _ (List.mem_append_right _ (List.mem_append_right _ (List.mem_append_right _ (List.mem_append_right _ (List.mem_append_right _ (List.mem_append_right _ (List.mem_append_left _ h)))))))))))))))))))))))))))
theorem wr_28 : ∀ w ∈ wsL_law0_r28, w ∈ wsL_law := fun w h => wr_all w (List.mem_append_right _ (List.mem_append_right _ (List.mem_append_right _ (List.mem_append_right _ (List.mem_append_right _ (List.mem_append_right _ (List.mem_append_right _ (List.mem_append_right _ (List.mem_append_right _ (List.mem_append_right _ (List.mem_append_right _ (List.mem_append_right _ (List.mem_append_right _ (List.mem_append_right _ (List.mem_append_right _ (List.mem_append_right _ (List.mem_append_right _ (List.mem_append_right _ (List.mem_append_right _ (List.mem_append_right _ (List.mem_append_right _ (List.mem_append_right _ (List.mem_append_right _ (List.mem_append_right _ (List.mem_append_right _ (List.mem_append_right _ (List.mem_append_right _ (List.mem_append_left _ h))))))))))))))))))))))))))))
theorem wr_29 : ∀ w ∈ wsL_law0_r29, w ∈ wsL_law := fun w h => wr_all w (List.mem_append_right _ (List.mem_append_right _ (List.mem_append_right _ (List.mem_append_right _ (List.mem_append_right _ (List.mem_append_right _ (List.mem_append_right _ (List.mem_append_right _ (List.mem_append_right _ (List.mem_append_right _ (List.mem_append_right _ (List.mem_append_right _ (List.mem_append_right _ (List.mem_append_right _ (List.mem_append_right _ (List.mem_append_right _ (List.mem_append_right _ (List.mem_append_right _ (List.mem_append_right _ (List.mem_append_right _ (List.mem_append_right _ (List.mem_append_right _ (List.mem_append_right _ (List.mem_append_right _ (List.mem_append_right _ (List.mem_append_right _ (List.mem_append_right _ (List.mem_append_right _ (List.mem_append_left _ h)))))))))))))))))))))))))))))
theorem wr_30 : ∀ w ∈ wsL_law0_r30, w ∈ wsL_law := fun w h => wr_all w (List.mem_append_right _ (List.mem_append_right _ (List.mem_append_right _ (List.mem_append_right _ (List.mem_append_right _ (List.mem_append_right _ (List.mem_append_right _ (List.mem_append_right _ (List.mem_append_right _ (List.mem_append_right _ (List.mem_append_right _ (List.mem_append_right _ (List.mem_append_right _ (List.mem_append_right _ (List.mem_append_right _ (List.mem_append_right _ (List.mem_append_right _ (List.mem_append_right _ (List.mem_append_right _ (List.mem_append_right _ (List.mem_append_right _ (List.mem_append_right _ (List.mem_append_right _ (List.mem_append_right _ (List.mem_append_right _ (List.mem_append_right _ (List.mem_append_right _ (List.mem_append_right _ (List.mem_append_right _ (List.mem_append_left _ h))))))))))))))))))))))))))))))
theorem wr_31 : ∀ w ∈ wsL_law0_r31, w ∈ wsL_law := fun w h => wr_all w (List.mem_append_right _ (List.mem_append_right _ (List.mem_append_right _ (List.mem_append_right _ (List.mem_append_right _ (List.mem_append_right _ (List.mem_append_right _ (List.mem_append_right _ (List.mem_append_right _ (List.mem_append_right _ (List.mem_append_right _ (List.mem_append_right _ (List.mem_append_right _ (List.mem_append_right _ (List.mem_append_right _ (List.mem_append_right _ (List.mem_append_right _ (List.mem_append_right _ (List.mem_append_right _ (List.mem_append_right _ (List.mem_append_right _ (List.mem_append_right _ (List.mem_append_right _ (List.mem_append_right _ (List.mem_append_right _ (List.mem_append_right _ (List.mem_append_right _ (List.mem_append_right _ (List.mem_append_right _ (List.mem_append_right _ (List.mem_append_left _ h)))))))))))))))))))))))))))))))
theorem wr_32 : ∀ w ∈ wsL_law0_r32, w ∈ wsL_law := fun w h => wr_all w (List.mem_append_right _ (List.mem_append_right _ (List.mem_append_right _ (List.mem_append_right _ (List.mem_append_right _ (List.mem_append_right _ (List.mem_append_right _ (List.mem_append_right _ (List.mem_append_right _ (List.mem_append_right _ (List.mem_append_right _ (List.mem_append_right _ (List.mem_append_right _ (List.mem_append_right _ (List.mem_append_right _ (List.mem_append_right _ (List.mem_append_right _ (List.mem_append_right _ (List.mem_append_right _ (List.mem_append_right _ (List.mem_append_right _ (List.mem_append_right _ (List.mem_append_right _ (List.mem_append_right _ (List.mem_append_right _ (List.mem_append_right _ (List.mem_append_right _ (List.mem_append_right _ (List.mem_append_right _ (List.mem_append_right _ (List.mem_append_right _ (List.mem_append_left _ h))))))))))))))))))))))))))))))))
theorem wr_33 : ∀ w ∈ wsL_law0_r33, w ∈ wsL_law := fun w h => wr_all w (List.mem_append_right _ (List.mem_append_right _ (List.mem_append_right _ (List.mem_append_right _ (List.mem_append_right _ (List.mem_append_right _ (List.mem_append_right _ (List.mem_append_right _ (List.mem_append_right _ (List.mem_append_right _ (List.mem_append_right _ (List.mem_append_right _ (List.mem_append_right _ (List.mem_append_right _ (List.mem_append_right _ (List.mem_append_right _ (List.mem_append_right _ (List.mem_append_right _ (List.mem_append_right _ (List.mem_append_right _ (List.mem_append_right _ (List.mem_append_right _ (List.mem_append_right _ (List.mem_append_right _ (List.mem_append_right _ (List.mem_append_right _ (List.mem_append_right _ (List.mem_append_right _ (List.mem_append_right _ (List.mem_append_right _ (List.mem_append_right _ (List.mem_append_right _ (List.mem_append_left _ h)))))))))))))))))))))))))))))))))
theorem wr_34 : ∀ w ∈ wsL_law0_r34, w ∈ wsL_law := fun w h => wr_all w (List.mem_append_right _ (List.mem_append_right _ (List.mem_append_right _ (List.mem_append_right _ (List.mem_append_right _ (List.mem_append_right _ (List.mem_append_right _ (List.mem_append_right _ (List.mem_append_right _ (List.mem_append_right _ (List.mem_append_right _ (List.mem_append_right _ (List.mem_append_right _ (List.mem_append_right _ (List.mem_append_right _ (List.mem_append_right _ (List.mem_append_right _ (List.mem_append_right _ (List.mem_append_right _ (List.mem_append_right _ (List.mem_append_right _ (List.mem_append_right _ (List.mem_append_right _ (List.mem_append_right _ (List.mem_append_right _ (List.mem_append_right _ (List.mem_append_right _ (List.mem_append_right _ (List.mem_append_right _ (List.mem_append_right _ (List.mem_append_right _ (List.mem_append_right _ (List.mem_append_right _ (List.mem_append_left _ h))))))))))))))))))))))))))))))))))
theorem wr_35 : ∀ w ∈ wsL_law0_r35, w ∈ wsL_law := fun w h => wr_all w (List.mem_append_right _ (List.mem_append_right _ (List.mem_append_right _ (List.mem_append_right _ (List.mem_append_right _ (List.mem_append_right _ (List.mem_append_right _ (List.mem_append_right _ (List.mem_append_right _ (List.mem_append_right _ (List.mem_append_right _ (List.mem_append_right _ (List.mem_append_right _ (List.mem_append_right _ (List.mem_append_right _ (List.mem_append_right _ (List.mem_append_right _ (List.mem_append_right _ (List.mem_append_right _ (List.mem_append_right _ (List.mem_append_right _ (List.mem_append_right _ (List.mem_append_right _ (List.mem_append_right _ (List.mem_append_right _ (List.mem_append_right _ (List.mem_append_right _ (List.mem_append_right _ (List.mem_append_right _ (List.mem_append_right _ (List.mem_append_right _ (List.mem_append_right _ (List.mem_append_right _ (List.mem_append_right _ (List.mem_append_left _ h)))))))))))))))))))))))))))))))))))
theorem wr_36 : ∀ w ∈ wsL_law0_r36, w ∈ wsL_law := fun w h => wr_all w (List.mem_append_right _ (List.mem_append_right _ (List.mem_append_right _ (List.mem_append_right _ (List.mem_append_right _ (List.mem_append_right _ (List.mem_append_right _ (List.mem_append_right _ (List.mem_append_right _ (List.mem_append_right _ (List.mem_append_right _ (List.mem_append_right _ (List.mem_append_right _ (List.mem_append_right _ (List.mem_append_right _ (List.mem_append_right _ (List.mem_append_right _ (List.mem_append_right _ (List.mem_append_right _ (List.mem_append_right _ (List.mem_append_right _ (List.mem_append_right _ (List.mem_append_right _ (List.mem_append_right _ (List.mem_append_right _ (List.mem_append_right _ (List.mem_append_right _ (List.mem_append_right _ (List.mem_append_right _ (List.mem_append_right _ (List.mem_append_right _ (List.mem_append_right _ (List.mem_append_right _ (List.mem_append_right _ (List.mem_append_right _ (List.mem_append_left _ h))))))))))))))))))))))))))))))))))))
theorem wr_37 : ∀ w ∈ wsL_law0_r37, w ∈ wsL_law := fun w h => wr_all w (List.mem_append_right _ (List.mem_append_right _ (List.mem_append_right _ (List.mem_append_right _ (List.mem_append_right _ (List.mem_append_right _ (List.mem_append_right _ (List.mem_append_right _ (List.mem_append_right _ (List.mem_append_right _ (List.mem_append_right _ (List.mem_append_right _ (List.mem_append_right _ (List.mem_append_right _ (List.mem_append_right _ (List.mem_append_right _ (List.mem_append_right _ (List.mem_append_right _ (List.mem_append_right _ (List.mem_append_right _ (List.mem_append_right _ (List.mem_append_right _ (List.mem_append_right _ (List.mem_append_right _ (List.mem_append_right _ (List.mem_append_right _ (List.mem_append_right _ (List.mem_append_right _ (List.mem_append_right _ (List.mem_append_right _ (List.mem_append_right _ (List.mem_append_right _ (List.mem_append_right _ (List.mem_append_right _ (List.mem_append_right _ (List.mem_append_right _ (List.mem_append_left _ h)))))))))))))))))))))))))))))))))))))
theorem wr_38 : ∀ w ∈ wsL_law0_r38, w ∈ wsL_law := fun w h => wr_all w (List.mem_append_right _ (List.mem_append_right _ (List.mem_append_right _ (List.mem_append_right _ (List.mem_append_right _ (List.mem_append_right _ (List.mem_append_right _ (List.mem_append_right _ (List.mem_append_right _ (List.mem_append_right _ (List.mem_append_right _ (List.mem_append_right _ (List.mem_append_right _ (List.mem_append_right _ (List.mem_append_right _ (List.mem_append_right _ (List.mem_append_right _ (List.mem_append_right _ (List.mem_append_right _ (List.mem_append_right _ (List.mem_append_right _ (List.mem_append_right _ (List.mem_append_right _ (List.mem_append_right _ (List.mem_append_right _ (List.mem_append_right _ (List.mem_append_right _ (List.mem_append_right _ (List.mem_append_right _ (List.mem_append_right _ (List.mem_append_right _ (List.mem_append_right _ (List.mem_append_right _ (List.mem_append_right _ (List.mem_append_right _ (List.mem_append_right _ (List.mem_append_right _ (List.mem_append_left _ h))))))))))))))))))))))))))))))))))))))
theorem wr_39 : ∀ w ∈ wsL_law0_r39, w ∈ wsL_law := fun w h => wr_all w (List.mem_append_right _ (List.mem_append_right _ (List.mem_append_right _ (List.mem_append_right _ (List.mem_append_right _ (List.mem_append_right _ (List.mem_append_right _ (List.mem_append_right _ (List.mem_append_right _ (List.mem_append_right _ (List.mem_append_right _ (List.mem_append_right _ (List.mem_append_right _ (List.mem_append_right _ (List.mem_append_right _ (List.mem_append_right _ (List.mem_append_right _ (List.mem_append_right _ (List.mem_append_right _ (List.mem_append_right _ (List.mem_append_right _ (List.mem_append_right _ (List.mem_append_right _ (List.mem_append_right _ (List.mem_append_right _ (List.mem_append_right _ (List.mem_append_right _ (List.mem_append_right _ (List.mem_append_right _ (List.mem_append_right _ (List.mem_append_right _ (List.mem_append_right _ (List.mem_append_right _ (List.mem_append_right _ (List.mem_append_right _ (List.mem_append_right _ (List.mem_append_right _ (List.mem_append_right _ (List.mem_append_left _ h)))))))))))))))))))))))))))))))))))))))
theorem wr_40 : ∀ w ∈ wsL_law0_r40, w ∈ wsL_law := fun w h => wr_all w (List.mem_append_right _ (List.mem_append_right _ (List.mem_append_right _ (List.mem_append_right _ (List.mem_append_right _ (List.mem_append_right _ (List.mem_append_right _ (List.mem_append_right _ (List.mem_append_right _ (List.mem_append_right _ (List.mem_append_right _ (List.mem_append_right _ (List.mem_append_right _ (List.mem_append_right _ (List.mem_append_right _ (List.mem_append_right _ (List.mem_append_right _ (List.mem_append_right _ (List.mem_append_right _ (List.mem_append_right _ (List.mem_append_right _ (List.mem_append_right _ (List.mem_append_right _ (List.mem_append_right _ (List.mem_append_right _ (List.mem_append_right _ (List.mem_append_right _ (List.mem_append_right _ (List.mem_append_right _ (List.mem_append_right _ (List.mem_append_right _ (List.mem_append_right _ (List.mem_append_right _ (List.mem_append_right _ (List.mem_append_right _ (List.mem_append_right _ (List.mem_append_right _ (List.mem_append_right _ (List.mem_append_right _ (List.mem_append_left _ h))))))))))))))))))))))))))))))))))))))))
theorem wr_41 : ∀ w ∈ wsL_law0_r41, w ∈ wsL_law := fun w h => wr_all w (List.mem_append_right _ (List.mem_append_right _ (List.mem_append_right _ (List.mem_append_right _ (List.mem_append_right _ (List.mem_append_right _ (List.mem_append_right _ (List.mem_append_right _ (List.mem_append_right _ (List.mem_append_right _ (List.mem_append_right _ (List.mem_append_right _ (List.mem_append_right _ (List.mem_append_right _ (List.mem_append_right _ (List.mem_append_right _ (List.mem_append_right _ (List.mem_append_right _ (List.mem_append_right _ (List.mem_append_right _ (List.mem_append_right _ (List.mem_append_right _ (List.mem_append_right _ (List.mem_append_right _ (List.mem_append_right _ (List.mem_append_right _ (List.mem_append_right _ (List.mem_append_right _ (List.mem_append_right _ (List.mem_append_right _ (List.mem_append_right _ (List.mem_append_right _ (List.mem_append_right _ (List.mem_append_right _ (List.mem_append_right _ (List.mem_append_right _ (List.mem_append_right _ (List.mem_append_right _ (List.mem_append_right _ (List.mem_append_right _ (List.mem_append_left _ h)))))))))))))))))))))))))))))))))))))))))
theorem wr_42 : ∀ w ∈ wsL_law0_r42, w ∈ wsL_law := fun w h => wr_all w (List.mem_append_right _ (List.mem_append_right _ (List.mem_append_right _ (List.mem_append_right _ (List.mem_append_right _ (List.mem_append_right _ (List.mem_append_right _ (List.mem_append_right _ (List.mem_append_right _ (List.mem_append_right _ (List.mem_append_right _ (List.mem_append_right _ (List.mem_append_right _ (List.mem_append_right _ (List.mem_append_right _ (List.mem_append_right _ (List.mem_append_right _ (List.mem_append_right _ (List.mem_append_right _ (List.mem_append_right _ (List.mem_append_right _ (List.mem_append_right _ (List.mem_append_right _ (List.mem_append_right _ (List.mem_append_right _ (List.mem_append_right _ (List.mem_append_right _ (List.mem_append_right _ (List.mem_append_right _ (List.mem_append_right _ (List.mem_append_right _ (List.mem_append_right _ (List.mem_append_right _ (List.mem_append_right _ (List.mem_append_right _ (List.mem_append_right _ (List.mem_append_right _ (List.mem_append_right _ (List.mem_append_right _ (List.mem_append_right _ (List.mem_append_right _ (List.mem_append_left _ h))))))))))))))))))))))))))))))))))))))))))
theorem wr_43 : ∀ w ∈ wsL_law0_r43, w ∈ wsL_law := fun w h => wr_all w (List.mem_append_right _ (List.mem_append_right _ (List.mem_append_right _ (List.mem_append_right _ (List.mem_append_right _ (List.mem_append_right _ (List.mem_append_right _ (List.mem_append_right _ (List.mem_append_right _ (List.mem_append_right _ (List.mem_append_right _ (List.mem_append_right _ (List.mem_append_right _ (List.mem_append_right _ (List.mem_append_right _ (List.mem_append_right _ (List.mem_append_right _ (List.mem_append_right _ (List.mem_append_right _ (List.mem_append_right _ (List.mem_append_right _ (List.mem_append_right _ (List.mem_append_right _ (List.mem_append_right _ (List.mem_append_right _ (List.mem_append_right _ (List.mem_append_right _ (List.mem_append_right _ (List.mem_append_right _ (List.mem_append_right _ (List.mem_append_right _ (List.mem_append_right _ (List.mem_append_right _ (List.mem_append_right _ (List.mem_append_right _ (List.mem_append_right _ (List.mem_append_right _ (List.mem_append_right _ (List.mem_append_right _ (List.mem_append_right _ (List.mem_append_right _ (List.mem_append_right _ (List.mem_append_left _ h)))))))))))))))))))))))))))))))))))))))))))
theorem wr_44 : ∀ w ∈ wsL_law0_r44, w ∈ wsL_law := fun w h => wr_all w (List.mem_append_right _ (List.mem_append_right _ (List.mem_append_right _ (List.mem_append_right _ (List.mem_append_right _ (List.mem_append_right _ (List.mem_append_right _ (List.mem_append_right _ (List.mem_append_right _ (List.mem_append_right _ (List.mem_append_right _ (List.mem_append_right _ (List.mem_append_right _ (List.mem_append_right _ (List.mem_append_right _ (List.mem_append_right _ (List.mem_append_right _ (List.mem_append_right _ (List.mem_append_right _ (List.mem_append_right _ (List.mem_append_right _ (List.mem_append_right _ (List.mem_append_right _ (List.mem_append_right _ (List.mem_append_right _ (List.mem_append_right _ (List.mem_append_right _ (List.mem_append_right _ (List.mem_append_right _ (List.mem_append_right _ (List.mem_append_right _ (List.mem_append_right _ (List.mem_append_right _ (List.mem_append_right _ (List.mem_append_right _ (List.mem_append_right _ (List.mem_append_right _ (List.mem_append_right _ (List.mem_append_right _ (List.mem_append_right _ (List.mem_append_right _ (List.mem_append_right _ (List.mem_append_right _ (h))))))))))))))))))))))))))))))))))))))))))))
theorem kk_X0 : sj_K 0 RX0 TX0 3 tyX0 := ⟨rfl, rfl, by decide, fun w h => inlX0 w h, tyX0_ok, nmX0, by decide +kernel⟩
theorem kk_X1 : sj_K 1 RX1 TX1 6 tyX1 := ⟨rfl, rfl, by decide, fun w h => inlX1 w h, tyX1_ok, nmX1, by decide +kernel⟩
theorem kk_X2 : sj_K 2 RX2 TX2 1 tyX2 := ⟨rfl, rfl, by decide, fun w h => inlX2 w h, tyX2_ok, nmX2, by decide +kernel⟩
theorem kk_X3 : sj_K 3 RX3 TX3 3 tyX3 := ⟨rfl, rfl, by decide, fun w h => inlX3 w h, tyX3_ok, nmX3, by decide +kernel⟩
theorem kk_X4 : sj_K 4 RX4 TX4 8 tyX4 := ⟨rfl, rfl, by decide, fun w h => inlX4 w h, tyX4_ok, nmX4, by decide +kernel⟩
theorem kk_X5 : sj_K 5 RX5 TX5 10 tyX5 := ⟨rfl, rfl, by decide, fun w h => inlX5 w h, tyX5_ok, nmX5, by decide +kernel⟩
theorem kk_X6 : sj_K 6 RX6 TX6 5 tyX6 := ⟨rfl, rfl, by decide, fun w h => inlX6 w h, tyX6_ok, nmX6, by decide +kernel⟩
theorem kk_X7 : sj_K 7 RX7 TX7 17 tyX7 := ⟨rfl, rfl, by decide, fun w h => inlX7 w h, tyX7_ok, nmX7, by decide +kernel⟩
theorem fd_X0_11 : sj_Fd RX0 11 0 0 1 (.array (.object "SlantOaths$Table")) true := ⟨RX0, TX0, 3, tyX0, kk_X0, Or.inl (wr_5 _ (List.mem_of_getElem? (i := 15) (by decide +kernel))), by decide, rfl, rfl, rfl, rfl⟩
theorem fd_X0_18 : sj_Fd RX0 18 0 1 0 .int false := ⟨RX0, TX0, 3, tyX0, kk_X0, Or.inl (wr_8 _ (List.mem_of_getElem? (i := 18) (by decide +kernel))), by decide, rfl, rfl, rfl, rfl⟩
theorem fd_X0_30 : sj_Fd RX0 30 0 2 0 .int false := ⟨RX0, TX0, 3, tyX0, kk_X0, Or.inl (wr_8 _ (List.mem_of_getElem? (i := 19) (by decide +kernel))), by decide, rfl, rfl, rfl, rfl⟩
theorem fd_X1_14 : sj_Fd RX1 14 1 2 1 (.object "SlantOaths$Row") true := ⟨RX1, TX1, 6, tyX1, kk_X1, Or.inl (wr_4 _ (List.mem_of_getElem? (i := 8) (by decide +kernel))), by decide, rfl, rfl, rfl, rfl⟩
theorem fd_X1_20 : sj_Fd RX1 20 1 3 1 (.object "SlantOaths$Row") true := ⟨RX1, TX1, 6, tyX1, kk_X1, Or.inl (wr_4 _ (List.mem_of_getElem? (i := 9) (by decide +kernel))), by decide, rfl, rfl, rfl, rfl⟩
theorem fd_X1_23 : sj_Fd RX1 23 1 4 1 (.object "SlantOaths$Row") true := ⟨RX1, TX1, 6, tyX1, kk_X1, Or.inl (wr_4 _ (List.mem_of_getElem? (i := 10) (by decide +kernel))), by decide, rfl, rfl, rfl, rfl⟩
theorem fd_X1_26 : sj_Fd RX1 26 1 5 1 (.object "SlantOaths$Row") true := ⟨RX1, TX1, 6, tyX1, kk_X1, Or.inl (wr_4 _ (List.mem_of_getElem? (i := 11) (by decide +kernel))), by decide, rfl, rfl, rfl, rfl⟩
theorem fd_X1_29 : sj_Fd RX1 29 1 0 0 .int false := ⟨RX1, TX1, 6, tyX1, kk_X1, Or.inl (wr_4 _ (List.mem_of_getElem? (i := 20) (by decide +kernel))), by decide, rfl, rfl, rfl, rfl⟩
theorem fd_X1_33 : sj_Fd RX1 33 1 1 0 .int false := ⟨RX1, TX1, 6, tyX1, kk_X1, Or.inl (wr_9 _ (List.mem_of_getElem? (i := 10) (by decide +kernel))), by decide, rfl, rfl, rfl, rfl⟩
theorem fd_X2_7 : sj_Fd RX2 7 2 0 1 (.array .int) true := ⟨RX2, TX2, 1, tyX2, kk_X2, Or.inl (wr_2 _ (List.mem_of_getElem? (i := 19) (by decide +kernel))), by decide, rfl, rfl, rfl, rfl⟩
theorem fd_X3_14 : sj_Fd RX3 14 3 2 1 (.object "SlantOaths$Row") true := ⟨RX3, TX3, 3, tyX3, kk_X3, Or.inl (wr_3 _ (List.mem_of_getElem? (i := 19) (by decide +kernel))), by decide, rfl, rfl, rfl, rfl⟩
theorem fd_X3_20 : sj_Fd RX3 20 3 0 0 .int true := ⟨RX3, TX3, 3, tyX3, kk_X3, Or.inl (wr_3 _ (List.mem_of_getElem? (i := 20) (by decide +kernel))), by decide, rfl, rfl, rfl, rfl⟩
theorem fd_X3_24 : sj_Fd RX3 24 3 1 1 (.object "SlantOaths$Row") true := ⟨RX3, TX3, 3, tyX3, kk_X3, Or.inl (wr_3 _ (List.mem_of_getElem? (i := 21) (by decide +kernel))), by decide, rfl, rfl, rfl, rfl⟩
theorem fd_X4_14 : sj_Fd RX4 14 4 0 1 (.object "SlantOaths$Sheet") true := ⟨RX4, TX4, 8, tyX4, kk_X4, Or.inl (wr_3 _ (List.mem_of_getElem? (i := 3) (by decide +kernel))), by decide, rfl, rfl, rfl, rfl⟩
theorem fd_X4_20 : sj_Fd RX4 20 4 1 1 (.array (.object "SlantOaths$Sheet")) true := ⟨RX4, TX4, 8, tyX4, kk_X4, Or.inl (wr_3 _ (List.mem_of_getElem? (i := 4) (by decide +kernel))), by decide, rfl, rfl, rfl, rfl⟩
theorem fd_X4_29 : sj_Fd RX4 29 4 2 1 (.object "SlantOaths$Row") true := ⟨RX4, TX4, 8, tyX4, kk_X4, Or.inl (wr_3 _ (List.mem_of_getElem? (i := 6) (by decide +kernel))), by decide, rfl, rfl, rfl, rfl⟩
theorem fd_X4_36 : sj_Fd RX4 36 4 4 1 (.object "SlantOaths$Oaths") true := ⟨RX4, TX4, 8, tyX4, kk_X4, Or.inl (wr_3 _ (List.mem_of_getElem? (i := 10) (by decide +kernel))), by decide, rfl, rfl, rfl, rfl⟩
theorem fd_X4_40 : sj_Fd RX4 40 4 5 1 (.object "SlantOaths$Row") true := ⟨RX4, TX4, 8, tyX4, kk_X4, Or.inl (wr_3 _ (List.mem_of_getElem? (i := 11) (by decide +kernel))), by decide, rfl, rfl, rfl, rfl⟩
theorem fd_X4_43 : sj_Fd RX4 43 4 6 0 .int false := ⟨RX4, TX4, 8, tyX4, kk_X4, Or.inl (wr_3 _ (List.mem_of_getElem? (i := 12) (by decide +kernel))), by decide, rfl, rfl, rfl, rfl⟩
theorem fd_X4_47 : sj_Fd RX4 47 4 7 0 .int false := ⟨RX4, TX4, 8, tyX4, kk_X4, Or.inl (wr_3 _ (List.mem_of_getElem? (i := 13) (by decide +kernel))), by decide, rfl, rfl, rfl, rfl⟩
theorem fd_X4_65 : sj_Fd RX4 65 4 3 0 .int false := ⟨RX4, TX4, 8, tyX4, kk_X4, Or.inl (wr_9 _ (List.mem_of_getElem? (i := 4) (by decide +kernel))), by decide, rfl, rfl, rfl, rfl⟩
theorem fd_X4_95 : sj_Fd RX4 95 3 0 0 .int true := ⟨RX3, TX3, 3, tyX3, kk_X3, Or.inr (List.mem_of_getElem? (i := 16) (by decide +kernel)), by decide, rfl, rfl, rfl, rfl⟩
theorem fd_X4_114 : sj_Fd RX4 114 1 0 0 .int false := ⟨RX1, TX1, 6, tyX1, kk_X1, Or.inr (List.mem_of_getElem? (i := 17) (by decide +kernel)), by decide, rfl, rfl, rfl, rfl⟩
theorem fd_X4_128 : sj_Fd RX4 128 1 1 0 .int false := ⟨RX1, TX1, 6, tyX1, kk_X1, Or.inr (List.mem_of_getElem? (i := 18) (by decide +kernel)), by decide, rfl, rfl, rfl, rfl⟩
theorem fd_X4_163 : sj_Fd RX4 163 3 2 1 (.object "SlantOaths$Row") true := ⟨RX3, TX3, 3, tyX3, kk_X3, Or.inr (List.mem_of_getElem? (i := 19) (by decide +kernel)), by decide, rfl, rfl, rfl, rfl⟩
theorem fd_X5_14 : sj_Fd RX5 14 5 0 1 (.object "SlantOaths$Row") true := ⟨RX5, TX5, 10, tyX5, kk_X5, Or.inl (wr_2 _ (List.mem_of_getElem? (i := 9) (by decide +kernel))), by decide, rfl, rfl, rfl, rfl⟩
theorem fd_X5_20 : sj_Fd RX5 20 5 4 1 (.object "SlantOaths$Row") true := ⟨RX5, TX5, 10, tyX5, kk_X5, Or.inl (wr_2 _ (List.mem_of_getElem? (i := 10) (by decide +kernel))), by decide, rfl, rfl, rfl, rfl⟩
theorem fd_X5_23 : sj_Fd RX5 23 5 6 1 (.object "SlantOaths$Row") true := ⟨RX5, TX5, 10, tyX5, kk_X5, Or.inl (wr_2 _ (List.mem_of_getElem? (i := 11) (by decide +kernel))), by decide, rfl, rfl, rfl, rfl⟩
theorem fd_X5_26 : sj_Fd RX5 26 5 7 1 (.object "SlantOaths$Row") true := ⟨RX5, TX5, 10, tyX5, kk_X5, Or.inl (wr_2 _ (List.mem_of_getElem? (i := 12) (by decide +kernel))), by decide, rfl, rfl, rfl, rfl⟩
theorem fd_X5_29 : sj_Fd RX5 29 5 8 1 (.object "SlantOaths$Row") true := ⟨RX5, TX5, 10, tyX5, kk_X5, Or.inl (wr_2 _ (List.mem_of_getElem? (i := 13) (by decide +kernel))), by decide, rfl, rfl, rfl, rfl⟩
theorem fd_X5_32 : sj_Fd RX5 32 5 1 0 .int false := ⟨RX5, TX5, 10, tyX5, kk_X5, Or.inl (wr_7 _ (List.mem_of_getElem? (i := 19) (by decide +kernel))), by decide, rfl, rfl, rfl, rfl⟩
theorem fd_X5_65 : sj_Fd RX5 65 5 2 0 .int false := ⟨RX5, TX5, 10, tyX5, kk_X5, Or.inl (wr_7 _ (List.mem_of_getElem? (i := 3) (by decide +kernel))), by decide, rfl, rfl, rfl, rfl⟩
theorem fd_X5_68 : sj_Fd RX5 68 5 3 0 .boolean false := ⟨RX5, TX5, 10, tyX5, kk_X5, Or.inl (wr_7 _ (List.mem_of_getElem? (i := 4) (by decide +kernel))), by decide, rfl, rfl, rfl, rfl⟩
theorem fd_X5_72 : sj_Fd RX5 72 5 5 0 .int false := ⟨RX5, TX5, 10, tyX5, kk_X5, Or.inl (wr_7 _ (List.mem_of_getElem? (i := 5) (by decide +kernel))), by decide, rfl, rfl, rfl, rfl⟩
theorem fd_X5_75 : sj_Fd RX5 75 5 9 0 .int false := ⟨RX5, TX5, 10, tyX5, kk_X5, Or.inl (wr_7 _ (List.mem_of_getElem? (i := 6) (by decide +kernel))), by decide, rfl, rfl, rfl, rfl⟩
theorem fd_X6_10 : sj_Fd RX6 10 6 0 1 (.object "SlantOaths$Text") true := ⟨RX6, TX6, 5, tyX6, kk_X6, Or.inl (wr_1 _ (List.mem_of_getElem? (i := 16) (by decide +kernel))), by decide, rfl, rfl, rfl, rfl⟩
theorem fd_X6_19 : sj_Fd RX6 19 6 1 1 (.object "SlantOaths$Table") true := ⟨RX6, TX6, 5, tyX6, kk_X6, Or.inl (wr_1 _ (List.mem_of_getElem? (i := 20) (by decide +kernel))), by decide, rfl, rfl, rfl, rfl⟩
theorem fd_X6_26 : sj_Fd RX6 26 6 2 1 (.object "SlantOaths$History") true := ⟨RX6, TX6, 5, tyX6, kk_X6, Or.inl (wr_2 _ (List.mem_of_getElem? (i := 0) (by decide +kernel))), by decide, rfl, rfl, rfl, rfl⟩
theorem fd_X6_30 : sj_Fd RX6 30 6 3 1 (.object "SlantOaths$Table") true := ⟨RX6, TX6, 5, tyX6, kk_X6, Or.inl (wr_2 _ (List.mem_of_getElem? (i := 1) (by decide +kernel))), by decide, rfl, rfl, rfl, rfl⟩
theorem fd_X6_33 : sj_Fd RX6 33 6 4 0 .boolean false := ⟨RX6, TX6, 5, tyX6, kk_X6, Or.inl (wr_2 _ (List.mem_of_getElem? (i := 2) (by decide +kernel))), by decide, rfl, rfl, rfl, rfl⟩
theorem fd_X6_48 : sj_Fd RX6 48 4 3 0 .int false := ⟨RX4, TX4, 8, tyX4, kk_X4, Or.inr (List.mem_of_getElem? (i := 0) (by decide +kernel)), by decide, rfl, rfl, rfl, rfl⟩
theorem fd_X6_63 : sj_Fd RX6 63 5 5 0 .int false := ⟨RX5, TX5, 10, tyX5, kk_X5, Or.inr (List.mem_of_getElem? (i := 1) (by decide +kernel)), by decide, rfl, rfl, rfl, rfl⟩
theorem fd_X6_66 : sj_Fd RX6 66 5 4 1 (.object "SlantOaths$Row") true := ⟨RX5, TX5, 10, tyX5, kk_X5, Or.inr (List.mem_of_getElem? (i := 2) (by decide +kernel)), by decide, rfl, rfl, rfl, rfl⟩
theorem fd_X6_109 : sj_Fd RX6 109 4 5 1 (.object "SlantOaths$Row") true := ⟨RX4, TX4, 8, tyX4, kk_X4, Or.inr (List.mem_of_getElem? (i := 3) (by decide +kernel)), by decide, rfl, rfl, rfl, rfl⟩
theorem fd_X6_131 : sj_Fd RX6 131 4 4 1 (.object "SlantOaths$Oaths") true := ⟨RX4, TX4, 8, tyX4, kk_X4, Or.inr (List.mem_of_getElem? (i := 4) (by decide +kernel)), by decide, rfl, rfl, rfl, rfl⟩
theorem fd_X6_155 : sj_Fd RX6 155 5 1 0 .int false := ⟨RX5, TX5, 10, tyX5, kk_X5, Or.inr (List.mem_of_getElem? (i := 5) (by decide +kernel)), by decide, rfl, rfl, rfl, rfl⟩
theorem fd_X6_165 : sj_Fd RX6 165 5 2 0 .int false := ⟨RX5, TX5, 10, tyX5, kk_X5, Or.inr (List.mem_of_getElem? (i := 6) (by decide +kernel)), by decide, rfl, rfl, rfl, rfl⟩
theorem fd_X6_173 : sj_Fd RX6 173 5 9 0 .int false := ⟨RX5, TX5, 10, tyX5, kk_X5, Or.inr (List.mem_of_getElem? (i := 7) (by decide +kernel)), by decide, rfl, rfl, rfl, rfl⟩
theorem fd_X6_181 : sj_Fd RX6 181 4 6 0 .int false := ⟨RX4, TX4, 8, tyX4, kk_X4, Or.inr (List.mem_of_getElem? (i := 8) (by decide +kernel)), by decide, rfl, rfl, rfl, rfl⟩
theorem fd_X6_184 : sj_Fd RX6 184 4 7 0 .int false := ⟨RX4, TX4, 8, tyX4, kk_X4, Or.inr (List.mem_of_getElem? (i := 9) (by decide +kernel)), by decide, rfl, rfl, rfl, rfl⟩
theorem fd_X6_187 : sj_Fd RX6 187 0 2 0 .int false := ⟨RX0, TX0, 3, tyX0, kk_X0, Or.inr (List.mem_of_getElem? (i := 10) (by decide +kernel)), by decide, rfl, rfl, rfl, rfl⟩
theorem fd_X6_225 : sj_Fd RX6 225 1 0 0 .int false := ⟨RX1, TX1, 6, tyX1, kk_X1, Or.inr (List.mem_of_getElem? (i := 11) (by decide +kernel)), by decide, rfl, rfl, rfl, rfl⟩
theorem fd_X6_269 : sj_Fd RX6 269 5 7 1 (.object "SlantOaths$Row") true := ⟨RX5, TX5, 10, tyX5, kk_X5, Or.inr (List.mem_of_getElem? (i := 12) (by decide +kernel)), by decide, rfl, rfl, rfl, rfl⟩
theorem fd_X6_272 : sj_Fd RX6 272 5 8 1 (.object "SlantOaths$Row") true := ⟨RX5, TX5, 10, tyX5, kk_X5, Or.inr (List.mem_of_getElem? (i := 13) (by decide +kernel)), by decide, rfl, rfl, rfl, rfl⟩
theorem fd_X6_275 : sj_Fd RX6 275 5 6 1 (.object "SlantOaths$Row") true := ⟨RX5, TX5, 10, tyX5, kk_X5, Or.inr (List.mem_of_getElem? (i := 14) (by decide +kernel)), by decide, rfl, rfl, rfl, rfl⟩
theorem fd_X7_7 : sj_Fd RX7 7 7 1 1 (.array .int) true := ⟨RX7, TX7, 17, tyX7, kk_X7, Or.inl (wr_5 _ (List.mem_of_getElem? (i := 21) (by decide +kernel))), by decide, rfl, rfl, rfl, rfl⟩
theorem fd_X7_13 : sj_Fd RX7 13 7 2 1 (.array .int) true := ⟨RX7, TX7, 17, tyX7, kk_X7, Or.inl (wr_5 _ (List.mem_of_getElem? (i := 22) (by decide +kernel))), by decide, rfl, rfl, rfl, rfl⟩
theorem fd_X7_16 : sj_Fd RX7 16 7 3 1 (.array .int) true := ⟨RX7, TX7, 17, tyX7, kk_X7, Or.inl (wr_5 _ (List.mem_of_getElem? (i := 23) (by decide +kernel))), by decide, rfl, rfl, rfl, rfl⟩
theorem fd_X7_19 : sj_Fd RX7 19 7 5 1 (.array .int) true := ⟨RX7, TX7, 17, tyX7, kk_X7, Or.inl (wr_6 _ (List.mem_of_getElem? (i := 0) (by decide +kernel))), by decide, rfl, rfl, rfl, rfl⟩
theorem fd_X7_22 : sj_Fd RX7 22 7 7 1 (.array .int) true := ⟨RX7, TX7, 17, tyX7, kk_X7, Or.inl (wr_6 _ (List.mem_of_getElem? (i := 1) (by decide +kernel))), by decide, rfl, rfl, rfl, rfl⟩
theorem fd_X7_25 : sj_Fd RX7 25 7 13 1 (.array .int) true := ⟨RX7, TX7, 17, tyX7, kk_X7, Or.inl (wr_6 _ (List.mem_of_getElem? (i := 2) (by decide +kernel))), by decide, rfl, rfl, rfl, rfl⟩
theorem fd_X7_28 : sj_Fd RX7 28 7 15 1 (.array .int) true := ⟨RX7, TX7, 17, tyX7, kk_X7, Or.inl (wr_6 _ (List.mem_of_getElem? (i := 3) (by decide +kernel))), by decide, rfl, rfl, rfl, rfl⟩
theorem fd_X7_31 : sj_Fd RX7 31 7 0 0 .int false := ⟨RX7, TX7, 17, tyX7, kk_X7, Or.inl (wr_11 _ (List.mem_of_getElem? (i := 17) (by decide +kernel))), by decide, rfl, rfl, rfl, rfl⟩
theorem fd_X7_43 : sj_Fd RX7 43 7 4 0 .int false := ⟨RX7, TX7, 17, tyX7, kk_X7, Or.inl (wr_13 _ (List.mem_of_getElem? (i := 8) (by decide +kernel))), by decide, rfl, rfl, rfl, rfl⟩
theorem fd_X7_50 : sj_Fd RX7 50 7 6 0 .boolean false := ⟨RX7, TX7, 17, tyX7, kk_X7, Or.inl (wr_30 _ (List.mem_of_getElem? (i := 7) (by decide +kernel))), by decide, rfl, rfl, rfl, rfl⟩
theorem fd_X7_136 : sj_Fd RX7 136 7 14 0 .int false := ⟨RX7, TX7, 17, tyX7, kk_X7, Or.inl (wr_11 _ (List.mem_of_getElem? (i := 18) (by decide +kernel))), by decide, rfl, rfl, rfl, rfl⟩
theorem fd_X7_139 : sj_Fd RX7 139 7 8 0 .int false := ⟨RX7, TX7, 17, tyX7, kk_X7, Or.inl (wr_11 _ (List.mem_of_getElem? (i := 19) (by decide +kernel))), by decide, rfl, rfl, rfl, rfl⟩
theorem fd_X7_161 : sj_Fd RX7 161 7 9 0 .int false := ⟨RX7, TX7, 17, tyX7, kk_X7, Or.inl (wr_12 _ (List.mem_of_getElem? (i := 4) (by decide +kernel))), by decide, rfl, rfl, rfl, rfl⟩
theorem fd_X7_179 : sj_Fd RX7 179 7 10 0 .int false := ⟨RX7, TX7, 17, tyX7, kk_X7, Or.inl (wr_27 _ (List.mem_of_getElem? (i := 10) (by decide +kernel))), by decide, rfl, rfl, rfl, rfl⟩
theorem fd_X7_182 : sj_Fd RX7 182 7 11 0 .int false := ⟨RX7, TX7, 17, tyX7, kk_X7, Or.inl (wr_27 _ (List.mem_of_getElem? (i := 11) (by decide +kernel))), by decide, rfl, rfl, rfl, rfl⟩
theorem fd_X7_185 : sj_Fd RX7 185 7 12 0 .int false := ⟨RX7, TX7, 17, tyX7, kk_X7, Or.inl (wr_27 _ (List.mem_of_getElem? (i := 12) (by decide +kernel))), by decide, rfl, rfl, rfl, rfl⟩
theorem fd_X7_260 : sj_Fd RX7 260 7 16 2 .long false := ⟨RX7, TX7, 17, tyX7, kk_X7, Or.inl (wr_43 _ (List.mem_of_getElem? (i := 16) (by decide +kernel))), by decide, rfl, rfl, rfl, rfl⟩
abbrev mX2_init : sj_M := (yX2_init, cX2_init, 2, none, 1, 20, 1, 60)
abbrev mX2_copyFrom : sj_M := (yX2_copyFrom, cX2_copyFrom, 3, none, 0, 0, 0, 0)
abbrev mX3_init : sj_M := (yX3_init, cX3_init, 3, none, 2, 41, 4, 122)
abbrev mX1_init : sj_M := (yX1_init, cX1_init, 1, none, 2, 41, 8, 244)
abbrev mX2_put : sj_M := (yX2_put, cX2_put, 3, none, 0, 0, 0, 0)
abbrev mX2_at : sj_M := (yX2_at, cX2_at, 2, some .int, 0, 0, 0, 0)
abbrev mX1_joinTwo : sj_M := (yX1_joinTwo, cX1_joinTwo, 5, none, 1, 22, 0, 0)
abbrev mX1_joinHands : sj_M := (yX1_joinHands, cX1_joinHands, 2, none, 2, 46, 0, 0)
abbrev mX4_init : sj_M := (yX4_init, cX4_init, 2, none, 3, 67, 19, 505)
abbrev mX0_init : sj_M := (yX0_init, cX0_init, 2, none, 4, 88, 116, 3044)
abbrev mX0_newestSlot : sj_M := (yX0_newestSlot, cX0_newestSlot, 1, some (.object "SlantOaths$Table"), 0, 0, 0, 0)
abbrev mX1_takeOver : sj_M := (yX1_takeOver, cX1_takeOver, 2, none, 1, 22, 0, 0)
abbrev mX4_takeOver : sj_M := (yX4_takeOver, cX4_takeOver, 3, none, 2, 43, 0, 0)
abbrev mX0_save : sj_M := (yX0_save, cX0_save, 3, none, 3, 65, 0, 0)
abbrev mX0_bringBack : sj_M := (yX0_bringBack, cX0_bringBack, 3, none, 3, 65, 0, 0)
abbrev mX1_add : sj_M := (yX1_add, cX1_add, 4, none, 3, 67, 0, 0)
abbrev mX2_closeUp : sj_M := (yX2_closeUp, cX2_closeUp, 3, none, 0, 0, 0, 0)
abbrev mX1_takeOut : sj_M := (yX1_takeOut, cX1_takeOut, 2, none, 1, 22, 0, 0)
abbrev mX1_removeAt : sj_M := (yX1_removeAt, cX1_removeAt, 2, none, 3, 67, 0, 0)
abbrev mX1_isOf : sj_M := (yX1_isOf, cX1_isOf, 3, some .boolean, 1, 21, 0, 0)
abbrev mX1_numberWithout : sj_M := (yX1_numberWithout, cX1_numberWithout, 2, some .int, 0, 0, 0, 0)
abbrev mX1_forgetSheet : sj_M := (yX1_forgetSheet, cX1_forgetSheet, 4, some .int, 3, 67, 0, 0)
abbrev mX1_placeOf : sj_M := (yX1_placeOf, cX1_placeOf, 4, some .int, 2, 43, 0, 0)
abbrev mX1_kindOf : sj_M := (yX1_kindOf, cX1_kindOf, 4, some .int, 3, 66, 0, 0)
abbrev mX1_leads : sj_M := (yX1_leads, cX1_leads, 9, some .boolean, 1, 21, 0, 0)
abbrev mX1_holdsTogether : sj_M := (yX1_holdsTogether, cX1_holdsTogether, 2, some .boolean, 2, 49, 0, 0)
abbrev mX1_numberOf : sj_M := (yX1_numberOf, cX1_numberOf, 3, some .int, 3, 70, 0, 0)
abbrev mX1_ofSheet : sj_M := (yX1_ofSheet, cX1_ofSheet, 4, some .int, 2, 43, 0, 0)
abbrev mX1_ofOneHand : sj_M := (yX1_ofOneHand, cX1_ofOneHand, 3, some .int, 1, 21, 0, 0)
abbrev mX1_handOf : sj_M := (yX1_handOf, cX1_handOf, 2, some .int, 1, 21, 0, 0)
abbrev mX1_isInHands : sj_M := (yX1_isInHands, cX1_isInHands, 5, some .boolean, 1, 21, 0, 0)
abbrev mX1_forbidJoining : sj_M := (yX1_forbidJoining, cX1_forbidJoining, 4, some .boolean, 2, 45, 0, 0)
abbrev mX3_numberOf : sj_M := (yX3_numberOf, cX3_numberOf, 3, some .int, 1, 21, 0, 0)
abbrev mX3_total : sj_M := (yX3_total, cX3_total, 4, some .int, 2, 43, 0, 0)
abbrev mJ9_floorDiv_7cf53 : sj_M := (yJ9_floorDiv_7cf53, cJ9_floorDiv_7cf53, 3, some .int, 0, 0, 0, 0)
abbrev mX3_mean : sj_M := (yX3_mean, cX3_mean, 2, some .int, 1, 22, 0, 0)
abbrev mX3_slantRange : sj_M := (yX3_slantRange, cX3_slantRange, 4, some .int, 2, 43, 0, 0)
abbrev mX3_loopHeights : sj_M := (yX3_loopHeights, cX3_loopHeights, 3, some .int, 2, 43, 0, 0)
abbrev mX3_pressureSteps : sj_M := (yX3_pressureSteps, cX3_pressureSteps, 3, some .int, 2, 43, 0, 0)
abbrev mX3_reckonMarks : sj_M := (yX3_reckonMarks, cX3_reckonMarks, 3, none, 3, 66, 0, 0)
abbrev mX3_toldNumber : sj_M := (yX3_toldNumber, cX3_toldNumber, 3, some .int, 2, 43, 0, 0)
abbrev mX3_toldMark : sj_M := (yX3_toldMark, cX3_toldMark, 2, some .int, 1, 21, 0, 0)
abbrev mX6_mix : sj_M := (yX6_mix, cX6_mix, 4, some .long, 0, 0, 0, 0)
abbrev mX3_mixInto : sj_M := (yX3_mixInto, cX3_mixInto, 7, some .long, 3, 65, 0, 0)
abbrev mX4_forgetStop : sj_M := (yX4_forgetStop, cX4_forgetStop, 1, none, 0, 0, 0, 0)
abbrev mX4_sheetAt : sj_M := (yX4_sheetAt, cX4_sheetAt, 3, some (.object "SlantOaths$Sheet"), 0, 0, 0, 0)
abbrev mX4_putDown : sj_M := (yX4_putDown, cX4_putDown, 3, some .int, 1, 22, 0, 0)
abbrev mX4_takeAway : sj_M := (yX4_takeAway, cX4_takeAway, 3, some .int, 4, 90, 0, 0)
abbrev mX4_growOlder : sj_M := (yX4_growOlder, cX4_growOlder, 4, some .int, 1, 22, 0, 0)
abbrev mX4_trembles : sj_M := (yX4_trembles, cX4_trembles, 3, some .boolean, 3, 66, 0, 0)
abbrev mX4_fadedMarks : sj_M := (yX4_fadedMarks, cX4_fadedMarks, 2, some .int, 1, 21, 0, 0)
abbrev mX4_numberOfSheet : sj_M := (yX4_numberOfSheet, cX4_numberOfSheet, 3, some .int, 4, 88, 0, 0)
abbrev mX4_hands : sj_M := (yX4_hands, cX4_hands, 3, some .int, 2, 42, 0, 0)
abbrev mX4_areOfOneHand : sj_M := (yX4_areOfOneHand, cX4_areOfOneHand, 3, some .boolean, 2, 42, 0, 0)
abbrev mX4_mostOfAHand : sj_M := (yX4_mostOfAHand, cX4_mostOfAHand, 5, some .int, 3, 64, 0, 0)
abbrev mX4_tremblingSheets : sj_M := (yX4_tremblingSheets, cX4_tremblingSheets, 3, some .int, 4, 88, 0, 0)
abbrev mX4_allowance : sj_M := (yX4_allowance, cX4_allowance, 2, some .int, 1, 21, 0, 0)
abbrev mX4_agreeing : sj_M := (yX4_agreeing, cX4_agreeing, 11, some .int, 2, 42, 0, 0)
abbrev mJ6_bitCount_0f7a4 : sj_M := (yJ6_bitCount_0f7a4, cJ6_bitCount_0f7a4, 1, some .int, 0, 0, 0, 0)
abbrev mX4_likeness : sj_M := (yX4_likeness, cX4_likeness, 4, some .int, 3, 72, 0, 0)
abbrev mX4_likePairs : sj_M := (yX4_likePairs, cX4_likePairs, 4, some .int, 4, 95, 0, 0)
abbrev mX4_numberOfAll : sj_M := (yX4_numberOfAll, cX4_numberOfAll, 2, some .int, 5, 118, 0, 0)
abbrev mX4_comparison : sj_M := (yX4_comparison, cX4_comparison, 4, some .int, 4, 95, 0, 0)
abbrev mX4_reasonAgainst : sj_M := (yX4_reasonAgainst, cX4_reasonAgainst, 4, some .int, 4, 95, 0, 0)
abbrev mX4_neededTolerance : sj_M := (yX4_neededTolerance, cX4_neededTolerance, 7, some .int, 2, 42, 0, 0)
abbrev mX4_mostAlike : sj_M := (yX4_mostAlike, cX4_mostAlike, 6, some .int, 4, 95, 0, 0)
abbrev mX4_shareOfHands : sj_M := (yX4_shareOfHands, cX4_shareOfHands, 5, some .double, 4, 95, 0, 0)
abbrev mX5_init : sj_M := (yX5_init, cX5_init, 1, none, 2, 41, 10, 305)
abbrev mX5_add : sj_M := (yX5_add, cX5_add, 2, some .int, 1, 22, 0, 0)
abbrev mX5_empty : sj_M := (yX5_empty, cX5_empty, 1, none, 0, 0, 0, 0)
abbrev mX5_mixInto : sj_M := (yX5_mixInto, cX5_mixInto, 6, some .long, 1, 23, 0, 0)
abbrev mX5_begin : sj_M := (yX5_begin, cX5_begin, 1, none, 0, 0, 0, 0)
abbrev mX5_codeHere : sj_M := (yX5_codeHere, cX5_codeHere, 1, some .int, 1, 21, 0, 0)
abbrev mX5_skip : sj_M := (yX5_skip, cX5_skip, 2, some .boolean, 2, 41, 0, 0)
abbrev mX5_digitHere : sj_M := (yX5_digitHere, cX5_digitHere, 2, some .int, 2, 41, 0, 0)
abbrev mX5_readNumber : sj_M := (yX5_readNumber, cX5_readNumber, 5, some .int, 3, 62, 0, 0)
abbrev mX5_need : sj_M := (yX5_need, cX5_need, 2, none, 3, 62, 0, 0)
abbrev mX5_readStroke : sj_M := (yX5_readStroke, cX5_readStroke, 8, none, 4, 86, 0, 0)
abbrev mX5_isComplete : sj_M := (yX5_isComplete, cX5_isComplete, 1, some .boolean, 0, 0, 0, 0)
abbrev mX5_readSheet : sj_M := (yX5_readSheet, cX5_readSheet, 2, some .boolean, 5, 113, 0, 0)
abbrev mX5_readPart : sj_M := (yX5_readPart, cX5_readPart, 4, none, 4, 86, 0, 0)
abbrev mX5_readWorks : sj_M := (yX5_readWorks, cX5_readWorks, 2, some .boolean, 5, 109, 0, 0)
abbrev mX6_init : sj_M := (yX6_init, cX6_init, 1, none, 5, 109, 168, 4388)
abbrev mX6_lay : sj_M := (yX6_lay, cX6_lay, 4, some .int, 6, 134, 5, 125)
abbrev mX6_isThere : sj_M := (yX6_isThere, cX6_isThere, 2, some .boolean, 0, 0, 0, 0)
abbrev mX6_drop : sj_M := (yX6_drop, cX6_drop, 2, some .int, 6, 112, 1, 6)
abbrev mX6_pass : sj_M := (yX6_pass, cX6_pass, 2, some .int, 6, 87, 1, 6)
abbrev mX6_set : sj_M := (yX6_set, cX6_set, 4, some .int, 6, 87, 1, 6)
abbrev mX6_areThere : sj_M := (yX6_areThere, cX6_areThere, 3, some .boolean, 1, 21, 0, 0)
abbrev mX6_swear : sj_M := (yX6_swear, cX6_swear, 4, some .int, 6, 118, 1, 6)
abbrev mX6_recant : sj_M := (yX6_recant, cX6_recant, 4, some .int, 6, 88, 1, 6)
abbrev mX6_append : sj_M := (yX6_append, cX6_append, 2, some .int, 6, 83, 1, 6)
abbrev mX6_clearBuffer : sj_M := (yX6_clearBuffer, cX6_clearBuffer, 2, some .int, 1, 20, 0, 0)
abbrev mX6_firstError : sj_M := (yX6_firstError, cX6_firstError, 2, some .int, 6, 134, 0, 0)
abbrev mX6_swearPart : sj_M := (yX6_swearPart, cX6_swearPart, 5, some .int, 5, 118, 0, 0)
abbrev mX6_doPart : sj_M := (yX6_doPart, cX6_doPart, 5, some .boolean, 6, 142, 0, 0)
abbrev mX6_work : sj_M := (yX6_work, cX6_work, 2, some .int, 7, 166, 1, 6)
abbrev mX6_stopped : sj_M := (yX6_stopped, cX6_stopped, 2, some .int, 6, 83, 1, 6)
abbrev mX6_undo : sj_M := (yX6_undo, cX6_undo, 1, some .int, 6, 87, 1, 6)
abbrev mX6_keep : sj_M := (yX6_keep, cX6_keep, 1, some .int, 3, 65, 0, 0)
abbrev mX6_restore : sj_M := (yX6_restore, cX6_restore, 1, some .int, 6, 87, 1, 6)
abbrev mX6_sheet : sj_M := (yX6_sheet, cX6_sheet, 3, some .int, 6, 110, 1, 6)
abbrev mX6_stroke : sj_M := (yX6_stroke, cX6_stroke, 4, some .int, 6, 83, 1, 6)
abbrev mX6_mark : sj_M := (yX6_mark, cX6_mark, 3, some .int, 6, 83, 1, 6)
abbrev mX6_compare : sj_M := (yX6_compare, cX6_compare, 4, some .int, 6, 118, 1, 6)
abbrev mX6_oath : sj_M := (yX6_oath, cX6_oath, 3, some .int, 6, 92, 1, 6)
abbrev mX6_toldCount : sj_M := (yX6_toldCount, cX6_toldCount, 2, some .int, 6, 139, 0, 0)
abbrev mX6_count : sj_M := (yX6_count, cX6_count, 2, some .int, 7, 160, 1, 6)
abbrev mX6_whyNot : sj_M := (yX6_whyNot, cX6_whyNot, 4, some .int, 6, 118, 1, 6)
abbrev mX6_nearest : sj_M := (yX6_nearest, cX6_nearest, 2, some .int, 6, 120, 1, 6)
abbrev mX6_toleranceFor : sj_M := (yX6_toleranceFor, cX6_toleranceFor, 4, some .int, 6, 83, 1, 6)
abbrev mX6_ifPassed : sj_M := (yX6_ifPassed, cX6_ifPassed, 4, some .int, 6, 95, 1, 6)
abbrev mX6_handShare : sj_M := (yX6_handShare, cX6_handShare, 1, some .double, 5, 119, 0, 0)
abbrev mX6_mixSheet : sj_M := (yX6_mixSheet, cX6_mixSheet, 7, some .long, 5, 120, 0, 0)
abbrev mX6_mixPair : sj_M := (yX6_mixPair, cX6_mixPair, 8, some .long, 5, 118, 0, 0)
abbrev mX6_bitsOf : sj_M := (yX6_bitsOf, cX6_bitsOf, 6, some .long, 0, 0, 0, 0)
abbrev mX6_digest : sj_M := (yX6_digest, cX6_digest, 5, some .long, 7, 160, 0, 0)
abbrev mX7_init : sj_M := (yX7_init, cX7_init, 1, none, 1, 20, 8, 4014)
abbrev mX7_thrown : sj_M := (yX7_thrown, cX7_thrown, 1, some .int, 0, 0, 0, 0)
abbrev mX7_fails : sj_M := (yX7_fails, cX7_fails, 2, some .int, 0, 0, 0, 0)
abbrev mX7_within : sj_M := (yX7_within, cX7_within, 3, some .boolean, 0, 0, 0, 0)
abbrev mX7_sizeOf : sj_M := (yX7_sizeOf, cX7_sizeOf, 1, some .int, 0, 0, 0, 0)
abbrev mX7_isSheet : sj_M := (yX7_isSheet, cX7_isSheet, 2, some .boolean, 1, 22, 0, 0)
abbrev mX7_of : sj_M := (yX7_of, cX7_of, 3, some .int, 0, 0, 0, 0)
abbrev mX7_ofStroke : sj_M := (yX7_ofStroke, cX7_ofStroke, 4, some .int, 1, 22, 0, 0)
abbrev mX7_ofOath : sj_M := (yX7_ofOath, cX7_ofOath, 3, some .int, 0, 0, 0, 0)
abbrev mX7_save : sj_M := (yX7_save, cX7_save, 2, none, 0, 0, 0, 0)
abbrev mX7_undo : sj_M := (yX7_undo, cX7_undo, 2, some .int, 1, 21, 0, 0)
abbrev mX7_keep : sj_M := (yX7_keep, cX7_keep, 2, some .int, 0, 0, 0, 0)
abbrev mX7_restore : sj_M := (yX7_restore, cX7_restore, 2, some .int, 1, 21, 0, 0)
abbrev mX7_putAside : sj_M := (yX7_putAside, cX7_putAside, 2, none, 0, 0, 0, 0)
abbrev mX7_takeBack : sj_M := (yX7_takeBack, cX7_takeBack, 2, none, 0, 0, 0, 0)
abbrev mX7_divided : sj_M := (yX7_divided, cX7_divided, 2, some .int, 0, 0, 0, 0)
abbrev mX7_sumOf : sj_M := (yX7_sumOf, cX7_sumOf, 5, some .int, 2, 45, 0, 0)
abbrev mX7_spread : sj_M := (yX7_spread, cX7_spread, 6, some .int, 2, 45, 0, 0)
abbrev mX7_loopHeight : sj_M := (yX7_loopHeight, cX7_loopHeight, 5, some .int, 3, 69, 0, 0)
abbrev mX7_unrest : sj_M := (yX7_unrest, cX7_unrest, 5, some .int, 2, 45, 0, 0)
abbrev mX7_markOf : sj_M := (yX7_markOf, cX7_markOf, 3, some .int, 4, 93, 0, 0)
abbrev mX7_hasFaded : sj_M := (yX7_hasFaded, cX7_hasFaded, 2, some .boolean, 1, 22, 0, 0)
abbrev mX7_isGone : sj_M := (yX7_isGone, cX7_isGone, 4, some .boolean, 2, 43, 0, 0)
abbrev mX7_differ : sj_M := (yX7_differ, cX7_differ, 4, some .int, 5, 115, 0, 0)
abbrev mX7_agreeing : sj_M := (yX7_agreeing, cX7_agreeing, 5, some .int, 6, 138, 0, 0)
abbrev mX7_ones : sj_M := (yX7_ones, cX7_ones, 3, some .int, 0, 0, 0, 0)
abbrev mX7_likeness : sj_M := (yX7_likeness, cX7_likeness, 3, some .int, 7, 162, 0, 0)
abbrev mX7_trembles : sj_M := (yX7_trembles, cX7_trembles, 2, some .boolean, 3, 69, 0, 0)
abbrev mX7_join : sj_M := (yX7_join, cX7_join, 7, none, 0, 0, 0, 0)
abbrev mX7_layHands : sj_M := (yX7_layHands, cX7_layHands, 3, none, 1, 26, 0, 0)
abbrev mX7_hands : sj_M := (yX7_hands, cX7_hands, 3, some .int, 2, 48, 0, 0)
abbrev mX7_areOfOne : sj_M := (yX7_areOfOne, cX7_areOfOne, 3, some .boolean, 2, 48, 0, 0)
abbrev mX7_findOath : sj_M := (yX7_findOath, cX7_findOath, 6, some .int, 1, 22, 0, 0)
abbrev mX7_breaks : sj_M := (yX7_breaks, cX7_breaks, 5, some .boolean, 2, 48, 0, 0)
abbrev mX7_whyNotSworn : sj_M := (yX7_whyNotSworn, cX7_whyNotSworn, 4, some .int, 8, 184, 0, 0)
abbrev mX7_swears : sj_M := (yX7_swears, cX7_swears, 5, some .int, 3, 70, 0, 0)
abbrev mX7_dropOath : sj_M := (yX7_dropOath, cX7_dropOath, 3, none, 0, 0, 0, 0)
abbrev mX7_holds : sj_M := (yX7_holds, cX7_holds, 2, some .boolean, 2, 48, 0, 0)
abbrev mX7_drops : sj_M := (yX7_drops, cX7_drops, 4, some .int, 1, 22, 0, 0)
abbrev mX7_passes : sj_M := (yX7_passes, cX7_passes, 5, some .int, 1, 22, 0, 0)
abbrev mX7_next : sj_M := (yX7_next, cX7_next, 1, some .int, 0, 0, 0, 0)
abbrev mX7_takes : sj_M := (yX7_takes, cX7_takes, 3, some .boolean, 1, 20, 0, 0)
abbrev mX7_readNumber : sj_M := (yX7_readNumber, cX7_readNumber, 4, some .int, 1, 22, 0, 0)
abbrev mX7_readsStroke : sj_M := (yX7_readsStroke, cX7_readsStroke, 9, some .boolean, 2, 45, 0, 0)
abbrev mX7_findSheetError : sj_M := (yX7_findSheetError, cX7_findSheetError, 1, some .int, 3, 73, 0, 0)
abbrev mX7_isSheetText : sj_M := (yX7_isSheetText, cX7_isSheetText, 1, some .boolean, 4, 93, 0, 0)
abbrev mX7_lay : sj_M := (yX7_lay, cX7_lay, 4, some .int, 5, 113, 0, 0)
abbrev mX7_drop : sj_M := (yX7_drop, cX7_drop, 2, some .int, 2, 45, 0, 0)
abbrev mX7_pass : sj_M := (yX7_pass, cX7_pass, 2, some .int, 2, 46, 0, 0)
abbrev mX7_mostOf : sj_M := (yX7_mostOf, cX7_mostOf, 1, some .int, 0, 0, 0, 0)
abbrev mX7_set : sj_M := (yX7_set, cX7_set, 4, some .int, 1, 22, 0, 0)
abbrev mX7_swear : sj_M := (yX7_swear, cX7_swear, 4, some .int, 9, 207, 0, 0)
abbrev mX7_recant : sj_M := (yX7_recant, cX7_recant, 4, some .int, 2, 47, 0, 0)
abbrev mX7_append : sj_M := (yX7_append, cX7_append, 2, some .int, 1, 22, 0, 0)
abbrev mX7_clearBuffer : sj_M := (yX7_clearBuffer, cX7_clearBuffer, 2, some .int, 0, 0, 0, 0)
abbrev mX7_readsPart : sj_M := (yX7_readsPart, cX7_readsPart, 1, some .boolean, 2, 45, 0, 0)
abbrev mX7_findWorksError : sj_M := (yX7_findWorksError, cX7_findWorksError, 1, some .int, 3, 65, 0, 0)
abbrev mX7_firstError : sj_M := (yX7_firstError, cX7_firstError, 3, some .int, 4, 93, 0, 0)
abbrev mX7_whyNotPart : sj_M := (yX7_whyNotPart, cX7_whyNotPart, 1, some .int, 9, 207, 0, 0)
abbrev mX7_doPart : sj_M := (yX7_doPart, cX7_doPart, 1, none, 4, 94, 0, 0)
abbrev mX7_work : sj_M := (yX7_work, cX7_work, 3, some .int, 10, 227, 0, 0)
abbrev mX7_stopped : sj_M := (yX7_stopped, cX7_stopped, 2, some .int, 1, 22, 0, 0)
abbrev mX7_handOf : sj_M := (yX7_handOf, cX7_handOf, 2, some .int, 2, 48, 0, 0)
abbrev mX7_oathsOf : sj_M := (yX7_oathsOf, cX7_oathsOf, 4, some .int, 1, 22, 0, 0)
abbrev mX7_tellsSheet : sj_M := (yX7_tellsSheet, cX7_tellsSheet, 3, some .int, 4, 90, 0, 0)
abbrev mX7_sheet : sj_M := (yX7_sheet, cX7_sheet, 3, some .int, 5, 112, 0, 0)
abbrev mX7_tellsStroke : sj_M := (yX7_tellsStroke, cX7_tellsStroke, 4, some .int, 2, 45, 0, 0)
abbrev mX7_stroke : sj_M := (yX7_stroke, cX7_stroke, 4, some .int, 3, 68, 0, 0)
abbrev mX7_mark : sj_M := (yX7_mark, cX7_mark, 3, some .int, 5, 115, 0, 0)
abbrev mX7_tellsOathOf : sj_M := (yX7_tellsOathOf, cX7_tellsOathOf, 4, some .int, 2, 47, 0, 0)
abbrev mX7_compares : sj_M := (yX7_compares, cX7_compares, 4, some .int, 8, 184, 0, 0)
abbrev mX7_compare : sj_M := (yX7_compare, cX7_compare, 4, some .int, 9, 207, 0, 0)
abbrev mX7_tellsOath : sj_M := (yX7_tellsOath, cX7_tellsOath, 3, some .int, 3, 69, 0, 0)
abbrev mX7_oath : sj_M := (yX7_oath, cX7_oath, 3, some .int, 4, 91, 0, 0)
abbrev mX7_likeOaths : sj_M := (yX7_likeOaths, cX7_likeOaths, 3, some .int, 1, 22, 0, 0)
abbrev mX7_mostOfHand : sj_M := (yX7_mostOfHand, cX7_mostOfHand, 5, some .int, 2, 48, 0, 0)
abbrev mX7_trembling : sj_M := (yX7_trembling, cX7_trembling, 3, some .int, 4, 90, 0, 0)
abbrev mX7_likePairs : sj_M := (yX7_likePairs, cX7_likePairs, 4, some .int, 8, 184, 0, 0)
abbrev mX7_tellsCount : sj_M := (yX7_tellsCount, cX7_tellsCount, 2, some .int, 9, 207, 0, 0)
abbrev mX7_count : sj_M := (yX7_count, cX7_count, 2, some .int, 10, 228, 0, 0)
abbrev mX7_whyNot : sj_M := (yX7_whyNot, cX7_whyNot, 4, some .int, 9, 207, 0, 0)
abbrev mX7_mostAlike : sj_M := (yX7_mostAlike, cX7_mostAlike, 5, some .int, 8, 184, 0, 0)
abbrev mX7_nearest : sj_M := (yX7_nearest, cX7_nearest, 2, some .int, 9, 208, 0, 0)
abbrev mX7_tolerance : sj_M := (yX7_tolerance, cX7_tolerance, 5, some .int, 6, 138, 0, 0)
abbrev mX7_toleranceFor : sj_M := (yX7_toleranceFor, cX7_toleranceFor, 4, some .int, 7, 162, 0, 0)
abbrev mX7_wouldPass : sj_M := (yX7_wouldPass, cX7_wouldPass, 6, some .int, 8, 184, 0, 0)
abbrev mX7_ifPassed : sj_M := (yX7_ifPassed, cX7_ifPassed, 4, some .int, 9, 209, 0, 0)
abbrev mX7_share : sj_M := (yX7_share, cX7_share, 6, some .double, 8, 184, 0, 0)
abbrev mX7_handShare : sj_M := (yX7_handShare, cX7_handShare, 1, some .double, 9, 209, 0, 0)
abbrev mX7_mix : sj_M := (yX7_mix, cX7_mix, 3, none, 0, 0, 0, 0)
abbrev mX7_mixSheet : sj_M := (yX7_mixSheet, cX7_mixSheet, 4, none, 9, 208, 0, 0)
abbrev mJxe99ae_isNaN_b9ae7 : sj_M := (yJxe99ae_isNaN_b9ae7, cJxe99ae_isNaN_b9ae7, 2, some .boolean, 0, 0, 0, 0)
abbrev mJxe99ae_doubleToLongBits_ccdee : sj_M := (yJxe99ae_doubleToLongBits_ccdee, cJxe99ae_doubleToLongBits_ccdee, 2, some .long, 1, 21, 0, 0)
abbrev mX7_digest : sj_M := (yX7_digest, cX7_digest, 2, some .long, 10, 231, 0, 0)
abbrev mJ9_abs_0f7a4 : sj_M := (yJ9_abs_0f7a4, cJ9_abs_0f7a4, 1, some .int, 0, 0, 0, 0)
abbrev mJ9_max_7cf53 : sj_M := (yJ9_max_7cf53, cJ9_max_7cf53, 2, some .int, 0, 0, 0, 0)
abbrev mJ9_min_7cf53 : sj_M := (yJ9_min_7cf53, cJ9_min_7cf53, 2, some .int, 0, 0, 0, 0)
abbrev mL_lay : sj_M := (yL_lay, cL_lay, 4, some .int, 7, 157, 5, 125)
abbrev mL_drop : sj_M := (yL_drop, cL_drop, 4, some .int, 7, 133, 1, 6)
abbrev mL_pass : sj_M := (yL_pass, cL_pass, 4, some .int, 7, 108, 1, 6)
abbrev mL_set : sj_M := (yL_set, cL_set, 5, some .int, 7, 110, 1, 6)
abbrev mL_swear : sj_M := (yL_swear, cL_swear, 6, some .int, 7, 141, 1, 6)
abbrev mL_recant : sj_M := (yL_recant, cL_recant, 5, some .int, 7, 111, 1, 6)
abbrev mL_append : sj_M := (yL_append, cL_append, 4, some .int, 7, 104, 1, 6)
abbrev mL_work : sj_M := (yL_work, cL_work, 3, some .int, 8, 187, 1, 6)
abbrev mL_stopped : sj_M := (yL_stopped, cL_stopped, 4, some .int, 7, 104, 1, 6)
abbrev mL_undo : sj_M := (yL_undo, cL_undo, 3, some .int, 7, 107, 1, 6)
abbrev mL_restore : sj_M := (yL_restore, cL_restore, 3, some .int, 7, 107, 1, 6)
abbrev mL_sheet : sj_M := (yL_sheet, cL_sheet, 5, some .int, 7, 132, 1, 6)
abbrev mL_stroke : sj_M := (yL_stroke, cL_stroke, 6, some .int, 7, 106, 1, 6)
abbrev mL_mark : sj_M := (yL_mark, cL_mark, 5, some .int, 7, 105, 1, 6)
abbrev mL_compare : sj_M := (yL_compare, cL_compare, 6, some .int, 7, 141, 1, 6)
abbrev mL_oath : sj_M := (yL_oath, cL_oath, 5, some .int, 7, 114, 1, 6)
abbrev mL_count : sj_M := (yL_count, cL_count, 4, some .int, 8, 181, 1, 6)
abbrev mL_whyNot : sj_M := (yL_whyNot, cL_whyNot, 6, some .int, 7, 141, 1, 6)
abbrev mL_nearest : sj_M := (yL_nearest, cL_nearest, 4, some .int, 7, 141, 1, 6)
abbrev mL_toleranceFor : sj_M := (yL_toleranceFor, cL_toleranceFor, 6, some .int, 7, 106, 1, 6)
abbrev mL_ifPassed : sj_M := (yL_ifPassed, cL_ifPassed, 6, some .int, 7, 118, 1, 6)
theorem cv_Jxe99ae_122 : sj_Vs RJxe99ae 122 mJxe99ae_isNaN_b9ae7 1 := ⟨wr_44 _ (List.mem_of_getElem? (i := 11) (by decide +kernel)), wr_44 _ (List.mem_of_getElem? (i := 12) (by decide +kernel)), wr_44 _ (List.mem_of_getElem? (i := 4) (by decide +kernel)), wr_44 _ (List.mem_of_getElem? (i := 13) (by decide +kernel)), ⟨by decide +kernel, by decide +kernel⟩, by decide +kernel⟩
theorem cv_L_7 : sj_V RL 7 mX6_lay 1 := ⟨wr_6 _ (List.mem_of_getElem? (i := 10) (by decide +kernel)), wr_6 _ (List.mem_of_getElem? (i := 11) (by decide +kernel)), wr_6 _ (List.mem_of_getElem? (i := 12) (by decide +kernel)), wr_1 _ (List.mem_of_getElem? (i := 2) (by decide +kernel)), wr_6 _ (List.mem_of_getElem? (i := 13) (by decide +kernel)), ⟨by decide +kernel, by decide +kernel⟩, by decide +kernel⟩
theorem cv_L_17 : sj_V RL 17 mX6_drop 1 := ⟨wr_13 _ (List.mem_of_getElem? (i := 17) (by decide +kernel)), wr_13 _ (List.mem_of_getElem? (i := 18) (by decide +kernel)), wr_13 _ (List.mem_of_getElem? (i := 19) (by decide +kernel)), wr_1 _ (List.mem_of_getElem? (i := 2) (by decide +kernel)), wr_13 _ (List.mem_of_getElem? (i := 20) (by decide +kernel)), ⟨by decide +kernel, by decide +kernel⟩, by decide +kernel⟩
theorem cv_L_22 : sj_V RL 22 mX6_pass 1 := ⟨wr_16 _ (List.mem_of_getElem? (i := 3) (by decide +kernel)), wr_16 _ (List.mem_of_getElem? (i := 4) (by decide +kernel)), wr_16 _ (List.mem_of_getElem? (i := 5) (by decide +kernel)), wr_1 _ (List.mem_of_getElem? (i := 2) (by decide +kernel)), wr_16 _ (List.mem_of_getElem? (i := 6) (by decide +kernel)), ⟨by decide +kernel, by decide +kernel⟩, by decide +kernel⟩
theorem cv_L_25 : sj_V RL 25 mX6_set 2 := ⟨wr_17 _ (List.mem_of_getElem? (i := 5) (by decide +kernel)), wr_17 _ (List.mem_of_getElem? (i := 6) (by decide +kernel)), wr_17 _ (List.mem_of_getElem? (i := 7) (by decide +kernel)), wr_1 _ (List.mem_of_getElem? (i := 2) (by decide +kernel)), wr_17 _ (List.mem_of_getElem? (i := 8) (by decide +kernel)), ⟨by decide +kernel, by decide +kernel⟩, by decide +kernel⟩
theorem cv_L_29 : sj_V RL 29 mX6_swear 3 := ⟨wr_17 _ (List.mem_of_getElem? (i := 22) (by decide +kernel)), wr_17 _ (List.mem_of_getElem? (i := 23) (by decide +kernel)), wr_18 _ (List.mem_of_getElem? (i := 0) (by decide +kernel)), wr_1 _ (List.mem_of_getElem? (i := 2) (by decide +kernel)), wr_18 _ (List.mem_of_getElem? (i := 1) (by decide +kernel)), ⟨by decide +kernel, by decide +kernel⟩, by decide +kernel⟩
theorem cv_L_33 : sj_V RL 33 mX6_recant 2 := ⟨wr_24 _ (List.mem_of_getElem? (i := 22) (by decide +kernel)), wr_24 _ (List.mem_of_getElem? (i := 23) (by decide +kernel)), wr_25 _ (List.mem_of_getElem? (i := 0) (by decide +kernel)), wr_1 _ (List.mem_of_getElem? (i := 2) (by decide +kernel)), wr_25 _ (List.mem_of_getElem? (i := 1) (by decide +kernel)), ⟨by decide +kernel, by decide +kernel⟩, by decide +kernel⟩
theorem cv_L_36 : sj_V RL 36 mX6_append 1 := ⟨wr_25 _ (List.mem_of_getElem? (i := 14) (by decide +kernel)), wr_25 _ (List.mem_of_getElem? (i := 15) (by decide +kernel)), wr_25 _ (List.mem_of_getElem? (i := 16) (by decide +kernel)), wr_1 _ (List.mem_of_getElem? (i := 2) (by decide +kernel)), wr_25 _ (List.mem_of_getElem? (i := 17) (by decide +kernel)), ⟨by decide +kernel, by decide +kernel⟩, by decide +kernel⟩
theorem cv_L_39 : sj_V RL 39 mX6_work 0 := ⟨wr_27 _ (List.mem_of_getElem? (i := 16) (by decide +kernel)), wr_27 _ (List.mem_of_getElem? (i := 17) (by decide +kernel)), wr_27 _ (List.mem_of_getElem? (i := 18) (by decide +kernel)), wr_1 _ (List.mem_of_getElem? (i := 2) (by decide +kernel)), wr_27 _ (List.mem_of_getElem? (i := 19) (by decide +kernel)), ⟨by decide +kernel, by decide +kernel⟩, by decide +kernel⟩
theorem cv_L_43 : sj_V RL 43 mX6_stopped 1 := ⟨wr_28 _ (List.mem_of_getElem? (i := 23) (by decide +kernel)), wr_29 _ (List.mem_of_getElem? (i := 0) (by decide +kernel)), wr_29 _ (List.mem_of_getElem? (i := 1) (by decide +kernel)), wr_1 _ (List.mem_of_getElem? (i := 2) (by decide +kernel)), wr_29 _ (List.mem_of_getElem? (i := 2) (by decide +kernel)), ⟨by decide +kernel, by decide +kernel⟩, by decide +kernel⟩
theorem cv_L_46 : sj_V RL 46 mX6_undo 0 := ⟨wr_29 _ (List.mem_of_getElem? (i := 10) (by decide +kernel)), wr_29 _ (List.mem_of_getElem? (i := 11) (by decide +kernel)), wr_29 _ (List.mem_of_getElem? (i := 12) (by decide +kernel)), wr_1 _ (List.mem_of_getElem? (i := 2) (by decide +kernel)), wr_29 _ (List.mem_of_getElem? (i := 13) (by decide +kernel)), ⟨by decide +kernel, by decide +kernel⟩, by decide +kernel⟩
theorem cv_L_49 : sj_V RL 49 mX6_restore 0 := ⟨wr_30 _ (List.mem_of_getElem? (i := 11) (by decide +kernel)), wr_30 _ (List.mem_of_getElem? (i := 12) (by decide +kernel)), wr_30 _ (List.mem_of_getElem? (i := 13) (by decide +kernel)), wr_1 _ (List.mem_of_getElem? (i := 2) (by decide +kernel)), wr_30 _ (List.mem_of_getElem? (i := 14) (by decide +kernel)), ⟨by decide +kernel, by decide +kernel⟩, by decide +kernel⟩
theorem cv_L_52 : sj_V RL 52 mX6_sheet 2 := ⟨wr_30 _ (List.mem_of_getElem? (i := 22) (by decide +kernel)), wr_30 _ (List.mem_of_getElem? (i := 23) (by decide +kernel)), wr_31 _ (List.mem_of_getElem? (i := 0) (by decide +kernel)), wr_1 _ (List.mem_of_getElem? (i := 2) (by decide +kernel)), wr_31 _ (List.mem_of_getElem? (i := 1) (by decide +kernel)), ⟨by decide +kernel, by decide +kernel⟩, by decide +kernel⟩
theorem cv_L_55 : sj_V RL 55 mX6_stroke 3 := ⟨wr_32 _ (List.mem_of_getElem? (i := 5) (by decide +kernel)), wr_32 _ (List.mem_of_getElem? (i := 6) (by decide +kernel)), wr_32 _ (List.mem_of_getElem? (i := 7) (by decide +kernel)), wr_1 _ (List.mem_of_getElem? (i := 2) (by decide +kernel)), wr_32 _ (List.mem_of_getElem? (i := 8) (by decide +kernel)), ⟨by decide +kernel, by decide +kernel⟩, by decide +kernel⟩
theorem cv_L_59 : sj_V RL 59 mX6_mark 2 := ⟨wr_33 _ (List.mem_of_getElem? (i := 1) (by decide +kernel)), wr_33 _ (List.mem_of_getElem? (i := 2) (by decide +kernel)), wr_33 _ (List.mem_of_getElem? (i := 3) (by decide +kernel)), wr_1 _ (List.mem_of_getElem? (i := 2) (by decide +kernel)), wr_33 _ (List.mem_of_getElem? (i := 4) (by decide +kernel)), ⟨by decide +kernel, by decide +kernel⟩, by decide +kernel⟩
theorem cv_L_62 : sj_V RL 62 mX6_compare 3 := ⟨wr_33 _ (List.mem_of_getElem? (i := 16) (by decide +kernel)), wr_33 _ (List.mem_of_getElem? (i := 17) (by decide +kernel)), wr_33 _ (List.mem_of_getElem? (i := 18) (by decide +kernel)), wr_1 _ (List.mem_of_getElem? (i := 2) (by decide +kernel)), wr_33 _ (List.mem_of_getElem? (i := 19) (by decide +kernel)), ⟨by decide +kernel, by decide +kernel⟩, by decide +kernel⟩
theorem cv_L_65 : sj_V RL 65 mX6_oath 2 := ⟨wr_35 _ (List.mem_of_getElem? (i := 0) (by decide +kernel)), wr_35 _ (List.mem_of_getElem? (i := 1) (by decide +kernel)), wr_35 _ (List.mem_of_getElem? (i := 2) (by decide +kernel)), wr_1 _ (List.mem_of_getElem? (i := 2) (by decide +kernel)), wr_35 _ (List.mem_of_getElem? (i := 3) (by decide +kernel)), ⟨by decide +kernel, by decide +kernel⟩, by decide +kernel⟩
theorem cv_L_68 : sj_V RL 68 mX6_count 1 := ⟨wr_36 _ (List.mem_of_getElem? (i := 4) (by decide +kernel)), wr_36 _ (List.mem_of_getElem? (i := 5) (by decide +kernel)), wr_36 _ (List.mem_of_getElem? (i := 6) (by decide +kernel)), wr_1 _ (List.mem_of_getElem? (i := 2) (by decide +kernel)), wr_36 _ (List.mem_of_getElem? (i := 7) (by decide +kernel)), ⟨by decide +kernel, by decide +kernel⟩, by decide +kernel⟩
theorem cv_L_71 : sj_V RL 71 mX6_whyNot 3 := ⟨wr_38 _ (List.mem_of_getElem? (i := 12) (by decide +kernel)), wr_38 _ (List.mem_of_getElem? (i := 13) (by decide +kernel)), wr_38 _ (List.mem_of_getElem? (i := 14) (by decide +kernel)), wr_1 _ (List.mem_of_getElem? (i := 2) (by decide +kernel)), wr_38 _ (List.mem_of_getElem? (i := 15) (by decide +kernel)), ⟨by decide +kernel, by decide +kernel⟩, by decide +kernel⟩
theorem cv_L_74 : sj_V RL 74 mX6_nearest 1 := ⟨wr_38 _ (List.mem_of_getElem? (i := 23) (by decide +kernel)), wr_39 _ (List.mem_of_getElem? (i := 0) (by decide +kernel)), wr_39 _ (List.mem_of_getElem? (i := 1) (by decide +kernel)), wr_1 _ (List.mem_of_getElem? (i := 2) (by decide +kernel)), wr_39 _ (List.mem_of_getElem? (i := 2) (by decide +kernel)), ⟨by decide +kernel, by decide +kernel⟩, by decide +kernel⟩
theorem cv_L_77 : sj_V RL 77 mX6_toleranceFor 3 := ⟨wr_39 _ (List.mem_of_getElem? (i := 18) (by decide +kernel)), wr_39 _ (List.mem_of_getElem? (i := 19) (by decide +kernel)), wr_39 _ (List.mem_of_getElem? (i := 20) (by decide +kernel)), wr_1 _ (List.mem_of_getElem? (i := 2) (by decide +kernel)), wr_39 _ (List.mem_of_getElem? (i := 21) (by decide +kernel)), ⟨by decide +kernel, by decide +kernel⟩, by decide +kernel⟩
theorem cv_L_80 : sj_V RL 80 mX6_ifPassed 3 := ⟨wr_40 _ (List.mem_of_getElem? (i := 13) (by decide +kernel)), wr_40 _ (List.mem_of_getElem? (i := 14) (by decide +kernel)), wr_40 _ (List.mem_of_getElem? (i := 15) (by decide +kernel)), wr_1 _ (List.mem_of_getElem? (i := 2) (by decide +kernel)), wr_40 _ (List.mem_of_getElem? (i := 16) (by decide +kernel)), ⟨by decide +kernel, by decide +kernel⟩, by decide +kernel⟩
theorem cv_L_92 : sj_V RL 92 mX7_lay 1 := ⟨wr_11 _ (List.mem_of_getElem? (i := 13) (by decide +kernel)), wr_11 _ (List.mem_of_getElem? (i := 14) (by decide +kernel)), wr_11 _ (List.mem_of_getElem? (i := 15) (by decide +kernel)), wr_1 _ (List.mem_of_getElem? (i := 5) (by decide +kernel)), wr_11 _ (List.mem_of_getElem? (i := 16) (by decide +kernel)), ⟨by decide +kernel, by decide +kernel⟩, by decide +kernel⟩
theorem cv_L_93 : sj_V RL 93 mX7_thrown 0 := ⟨wr_13 _ (List.mem_of_getElem? (i := 9) (by decide +kernel)), wr_13 _ (List.mem_of_getElem? (i := 10) (by decide +kernel)), wr_13 _ (List.mem_of_getElem? (i := 11) (by decide +kernel)), wr_1 _ (List.mem_of_getElem? (i := 5) (by decide +kernel)), wr_13 _ (List.mem_of_getElem? (i := 12) (by decide +kernel)), ⟨by decide +kernel, by decide +kernel⟩, by decide +kernel⟩
theorem cv_L_98 : sj_V RL 98 mX7_drop 1 := ⟨wr_15 _ (List.mem_of_getElem? (i := 4) (by decide +kernel)), wr_15 _ (List.mem_of_getElem? (i := 5) (by decide +kernel)), wr_15 _ (List.mem_of_getElem? (i := 6) (by decide +kernel)), wr_1 _ (List.mem_of_getElem? (i := 5) (by decide +kernel)), wr_15 _ (List.mem_of_getElem? (i := 7) (by decide +kernel)), ⟨by decide +kernel, by decide +kernel⟩, by decide +kernel⟩
theorem cv_L_101 : sj_V RL 101 mX7_pass 1 := ⟨wr_16 _ (List.mem_of_getElem? (i := 14) (by decide +kernel)), wr_16 _ (List.mem_of_getElem? (i := 15) (by decide +kernel)), wr_16 _ (List.mem_of_getElem? (i := 16) (by decide +kernel)), wr_1 _ (List.mem_of_getElem? (i := 5) (by decide +kernel)), wr_16 _ (List.mem_of_getElem? (i := 17) (by decide +kernel)), ⟨by decide +kernel, by decide +kernel⟩, by decide +kernel⟩
theorem cv_L_105 : sj_V RL 105 mX7_set 2 := ⟨wr_17 _ (List.mem_of_getElem? (i := 12) (by decide +kernel)), wr_17 _ (List.mem_of_getElem? (i := 13) (by decide +kernel)), wr_17 _ (List.mem_of_getElem? (i := 14) (by decide +kernel)), wr_1 _ (List.mem_of_getElem? (i := 5) (by decide +kernel)), wr_17 _ (List.mem_of_getElem? (i := 15) (by decide +kernel)), ⟨by decide +kernel, by decide +kernel⟩, by decide +kernel⟩
theorem cv_L_109 : sj_V RL 109 mX7_swear 3 := ⟨wr_20 _ (List.mem_of_getElem? (i := 22) (by decide +kernel)), wr_20 _ (List.mem_of_getElem? (i := 23) (by decide +kernel)), wr_21 _ (List.mem_of_getElem? (i := 0) (by decide +kernel)), wr_1 _ (List.mem_of_getElem? (i := 5) (by decide +kernel)), wr_21 _ (List.mem_of_getElem? (i := 1) (by decide +kernel)), ⟨by decide +kernel, by decide +kernel⟩, by decide +kernel⟩
theorem cv_L_112 : sj_V RL 112 mX7_recant 2 := ⟨wr_25 _ (List.mem_of_getElem? (i := 7) (by decide +kernel)), wr_25 _ (List.mem_of_getElem? (i := 8) (by decide +kernel)), wr_25 _ (List.mem_of_getElem? (i := 9) (by decide +kernel)), wr_1 _ (List.mem_of_getElem? (i := 5) (by decide +kernel)), wr_25 _ (List.mem_of_getElem? (i := 10) (by decide +kernel)), ⟨by decide +kernel, by decide +kernel⟩, by decide +kernel⟩
theorem cv_L_115 : sj_V RL 115 mX7_append 1 := ⟨wr_25 _ (List.mem_of_getElem? (i := 22) (by decide +kernel)), wr_25 _ (List.mem_of_getElem? (i := 23) (by decide +kernel)), wr_26 _ (List.mem_of_getElem? (i := 0) (by decide +kernel)), wr_1 _ (List.mem_of_getElem? (i := 5) (by decide +kernel)), wr_26 _ (List.mem_of_getElem? (i := 1) (by decide +kernel)), ⟨by decide +kernel, by decide +kernel⟩, by decide +kernel⟩
theorem cv_L_116 : sj_V RL 116 mX6_clearBuffer 0 := ⟨wr_26 _ (List.mem_of_getElem? (i := 2) (by decide +kernel)), wr_26 _ (List.mem_of_getElem? (i := 3) (by decide +kernel)), wr_26 _ (List.mem_of_getElem? (i := 4) (by decide +kernel)), wr_1 _ (List.mem_of_getElem? (i := 2) (by decide +kernel)), wr_26 _ (List.mem_of_getElem? (i := 5) (by decide +kernel)), ⟨by decide +kernel, by decide +kernel⟩, by decide +kernel⟩
theorem cv_L_119 : sj_V RL 119 mX7_clearBuffer 0 := ⟨wr_26 _ (List.mem_of_getElem? (i := 6) (by decide +kernel)), wr_26 _ (List.mem_of_getElem? (i := 7) (by decide +kernel)), wr_26 _ (List.mem_of_getElem? (i := 8) (by decide +kernel)), wr_1 _ (List.mem_of_getElem? (i := 5) (by decide +kernel)), wr_26 _ (List.mem_of_getElem? (i := 9) (by decide +kernel)), ⟨by decide +kernel, by decide +kernel⟩, by decide +kernel⟩
theorem cv_L_120 : sj_V RL 120 mX6_firstError 1 := ⟨wr_26 _ (List.mem_of_getElem? (i := 10) (by decide +kernel)), wr_26 _ (List.mem_of_getElem? (i := 11) (by decide +kernel)), wr_26 _ (List.mem_of_getElem? (i := 12) (by decide +kernel)), wr_1 _ (List.mem_of_getElem? (i := 2) (by decide +kernel)), wr_26 _ (List.mem_of_getElem? (i := 13) (by decide +kernel)), ⟨by decide +kernel, by decide +kernel⟩, by decide +kernel⟩
theorem cv_L_124 : sj_V RL 124 mX7_firstError 1 := ⟨wr_26 _ (List.mem_of_getElem? (i := 22) (by decide +kernel)), wr_26 _ (List.mem_of_getElem? (i := 23) (by decide +kernel)), wr_27 _ (List.mem_of_getElem? (i := 0) (by decide +kernel)), wr_1 _ (List.mem_of_getElem? (i := 5) (by decide +kernel)), wr_27 _ (List.mem_of_getElem? (i := 1) (by decide +kernel)), ⟨by decide +kernel, by decide +kernel⟩, by decide +kernel⟩
theorem cv_L_128 : sj_V RL 128 mX7_work 0 := ⟨wr_28 _ (List.mem_of_getElem? (i := 8) (by decide +kernel)), wr_28 _ (List.mem_of_getElem? (i := 9) (by decide +kernel)), wr_28 _ (List.mem_of_getElem? (i := 10) (by decide +kernel)), wr_1 _ (List.mem_of_getElem? (i := 5) (by decide +kernel)), wr_28 _ (List.mem_of_getElem? (i := 11) (by decide +kernel)), ⟨by decide +kernel, by decide +kernel⟩, by decide +kernel⟩
theorem cv_L_131 : sj_V RL 131 mX7_stopped 1 := ⟨wr_29 _ (List.mem_of_getElem? (i := 3) (by decide +kernel)), wr_29 _ (List.mem_of_getElem? (i := 4) (by decide +kernel)), wr_29 _ (List.mem_of_getElem? (i := 5) (by decide +kernel)), wr_1 _ (List.mem_of_getElem? (i := 5) (by decide +kernel)), wr_29 _ (List.mem_of_getElem? (i := 6) (by decide +kernel)), ⟨by decide +kernel, by decide +kernel⟩, by decide +kernel⟩
theorem cv_L_134 : sj_V RL 134 mX7_undo 0 := ⟨wr_29 _ (List.mem_of_getElem? (i := 18) (by decide +kernel)), wr_29 _ (List.mem_of_getElem? (i := 19) (by decide +kernel)), wr_29 _ (List.mem_of_getElem? (i := 20) (by decide +kernel)), wr_1 _ (List.mem_of_getElem? (i := 5) (by decide +kernel)), wr_29 _ (List.mem_of_getElem? (i := 21) (by decide +kernel)), ⟨by decide +kernel, by decide +kernel⟩, by decide +kernel⟩
theorem cv_L_135 : sj_V RL 135 mX6_keep 0 := ⟨wr_29 _ (List.mem_of_getElem? (i := 22) (by decide +kernel)), wr_29 _ (List.mem_of_getElem? (i := 23) (by decide +kernel)), wr_30 _ (List.mem_of_getElem? (i := 0) (by decide +kernel)), wr_1 _ (List.mem_of_getElem? (i := 2) (by decide +kernel)), wr_30 _ (List.mem_of_getElem? (i := 1) (by decide +kernel)), ⟨by decide +kernel, by decide +kernel⟩, by decide +kernel⟩
theorem cv_L_138 : sj_V RL 138 mX7_keep 0 := ⟨wr_30 _ (List.mem_of_getElem? (i := 3) (by decide +kernel)), wr_30 _ (List.mem_of_getElem? (i := 4) (by decide +kernel)), wr_30 _ (List.mem_of_getElem? (i := 5) (by decide +kernel)), wr_1 _ (List.mem_of_getElem? (i := 5) (by decide +kernel)), wr_30 _ (List.mem_of_getElem? (i := 6) (by decide +kernel)), ⟨by decide +kernel, by decide +kernel⟩, by decide +kernel⟩
theorem cv_L_141 : sj_V RL 141 mX7_restore 0 := ⟨wr_30 _ (List.mem_of_getElem? (i := 15) (by decide +kernel)), wr_30 _ (List.mem_of_getElem? (i := 16) (by decide +kernel)), wr_30 _ (List.mem_of_getElem? (i := 17) (by decide +kernel)), wr_1 _ (List.mem_of_getElem? (i := 5) (by decide +kernel)), wr_30 _ (List.mem_of_getElem? (i := 18) (by decide +kernel)), ⟨by decide +kernel, by decide +kernel⟩, by decide +kernel⟩
theorem cv_L_144 : sj_V RL 144 mX7_sheet 2 := ⟨wr_31 _ (List.mem_of_getElem? (i := 10) (by decide +kernel)), wr_31 _ (List.mem_of_getElem? (i := 11) (by decide +kernel)), wr_31 _ (List.mem_of_getElem? (i := 12) (by decide +kernel)), wr_1 _ (List.mem_of_getElem? (i := 5) (by decide +kernel)), wr_31 _ (List.mem_of_getElem? (i := 13) (by decide +kernel)), ⟨by decide +kernel, by decide +kernel⟩, by decide +kernel⟩
theorem cv_L_148 : sj_V RL 148 mX7_stroke 3 := ⟨wr_32 _ (List.mem_of_getElem? (i := 14) (by decide +kernel)), wr_32 _ (List.mem_of_getElem? (i := 15) (by decide +kernel)), wr_32 _ (List.mem_of_getElem? (i := 16) (by decide +kernel)), wr_1 _ (List.mem_of_getElem? (i := 5) (by decide +kernel)), wr_32 _ (List.mem_of_getElem? (i := 17) (by decide +kernel)), ⟨by decide +kernel, by decide +kernel⟩, by decide +kernel⟩
theorem cv_L_151 : sj_V RL 151 mX7_mark 2 := ⟨wr_33 _ (List.mem_of_getElem? (i := 9) (by decide +kernel)), wr_33 _ (List.mem_of_getElem? (i := 10) (by decide +kernel)), wr_33 _ (List.mem_of_getElem? (i := 11) (by decide +kernel)), wr_1 _ (List.mem_of_getElem? (i := 5) (by decide +kernel)), wr_33 _ (List.mem_of_getElem? (i := 12) (by decide +kernel)), ⟨by decide +kernel, by decide +kernel⟩, by decide +kernel⟩
theorem cv_L_154 : sj_V RL 154 mX7_compare 3 := ⟨wr_34 _ (List.mem_of_getElem? (i := 9) (by decide +kernel)), wr_34 _ (List.mem_of_getElem? (i := 10) (by decide +kernel)), wr_34 _ (List.mem_of_getElem? (i := 11) (by decide +kernel)), wr_1 _ (List.mem_of_getElem? (i := 5) (by decide +kernel)), wr_34 _ (List.mem_of_getElem? (i := 12) (by decide +kernel)), ⟨by decide +kernel, by decide +kernel⟩, by decide +kernel⟩
theorem cv_L_157 : sj_V RL 157 mX7_oath 2 := ⟨wr_35 _ (List.mem_of_getElem? (i := 13) (by decide +kernel)), wr_35 _ (List.mem_of_getElem? (i := 14) (by decide +kernel)), wr_35 _ (List.mem_of_getElem? (i := 15) (by decide +kernel)), wr_1 _ (List.mem_of_getElem? (i := 5) (by decide +kernel)), wr_35 _ (List.mem_of_getElem? (i := 16) (by decide +kernel)), ⟨by decide +kernel, by decide +kernel⟩, by decide +kernel⟩
theorem cv_L_160 : sj_V RL 160 mX7_count 1 := ⟨wr_37 _ (List.mem_of_getElem? (i := 9) (by decide +kernel)), wr_37 _ (List.mem_of_getElem? (i := 10) (by decide +kernel)), wr_37 _ (List.mem_of_getElem? (i := 11) (by decide +kernel)), wr_1 _ (List.mem_of_getElem? (i := 5) (by decide +kernel)), wr_37 _ (List.mem_of_getElem? (i := 12) (by decide +kernel)), ⟨by decide +kernel, by decide +kernel⟩, by decide +kernel⟩
theorem cv_L_163 : sj_V RL 163 mX7_whyNot 3 := ⟨wr_38 _ (List.mem_of_getElem? (i := 16) (by decide +kernel)), wr_38 _ (List.mem_of_getElem? (i := 17) (by decide +kernel)), wr_38 _ (List.mem_of_getElem? (i := 18) (by decide +kernel)), wr_1 _ (List.mem_of_getElem? (i := 5) (by decide +kernel)), wr_38 _ (List.mem_of_getElem? (i := 19) (by decide +kernel)), ⟨by decide +kernel, by decide +kernel⟩, by decide +kernel⟩
theorem cv_L_166 : sj_V RL 166 mX7_nearest 1 := ⟨wr_39 _ (List.mem_of_getElem? (i := 7) (by decide +kernel)), wr_39 _ (List.mem_of_getElem? (i := 8) (by decide +kernel)), wr_39 _ (List.mem_of_getElem? (i := 9) (by decide +kernel)), wr_1 _ (List.mem_of_getElem? (i := 5) (by decide +kernel)), wr_39 _ (List.mem_of_getElem? (i := 10) (by decide +kernel)), ⟨by decide +kernel, by decide +kernel⟩, by decide +kernel⟩
theorem cv_L_169 : sj_V RL 169 mX7_toleranceFor 3 := ⟨wr_40 _ (List.mem_of_getElem? (i := 2) (by decide +kernel)), wr_40 _ (List.mem_of_getElem? (i := 3) (by decide +kernel)), wr_40 _ (List.mem_of_getElem? (i := 4) (by decide +kernel)), wr_1 _ (List.mem_of_getElem? (i := 5) (by decide +kernel)), wr_40 _ (List.mem_of_getElem? (i := 5) (by decide +kernel)), ⟨by decide +kernel, by decide +kernel⟩, by decide +kernel⟩
theorem cv_L_172 : sj_V RL 172 mX7_ifPassed 3 := ⟨wr_40 _ (List.mem_of_getElem? (i := 18) (by decide +kernel)), wr_40 _ (List.mem_of_getElem? (i := 19) (by decide +kernel)), wr_40 _ (List.mem_of_getElem? (i := 20) (by decide +kernel)), wr_1 _ (List.mem_of_getElem? (i := 5) (by decide +kernel)), wr_40 _ (List.mem_of_getElem? (i := 21) (by decide +kernel)), ⟨by decide +kernel, by decide +kernel⟩, by decide +kernel⟩
theorem cv_L_173 : sj_V RL 173 mX6_handShare 0 := ⟨wr_41 _ (List.mem_of_getElem? (i := 10) (by decide +kernel)), wr_41 _ (List.mem_of_getElem? (i := 11) (by decide +kernel)), wr_41 _ (List.mem_of_getElem? (i := 12) (by decide +kernel)), wr_1 _ (List.mem_of_getElem? (i := 2) (by decide +kernel)), wr_41 _ (List.mem_of_getElem? (i := 13) (by decide +kernel)), ⟨by decide +kernel, by decide +kernel⟩, by decide +kernel⟩
theorem cv_L_177 : sj_V RL 177 mX7_handShare 0 := ⟨wr_41 _ (List.mem_of_getElem? (i := 18) (by decide +kernel)), wr_41 _ (List.mem_of_getElem? (i := 19) (by decide +kernel)), wr_41 _ (List.mem_of_getElem? (i := 20) (by decide +kernel)), wr_1 _ (List.mem_of_getElem? (i := 5) (by decide +kernel)), wr_41 _ (List.mem_of_getElem? (i := 21) (by decide +kernel)), ⟨by decide +kernel, by decide +kernel⟩, by decide +kernel⟩
theorem cv_L_178 : sj_V RL 178 mX6_digest 0 := ⟨wr_42 _ (List.mem_of_getElem? (i := 2) (by decide +kernel)), wr_42 _ (List.mem_of_getElem? (i := 3) (by decide +kernel)), wr_42 _ (List.mem_of_getElem? (i := 4) (by decide +kernel)), wr_1 _ (List.mem_of_getElem? (i := 2) (by decide +kernel)), wr_42 _ (List.mem_of_getElem? (i := 5) (by decide +kernel)), ⟨by decide +kernel, by decide +kernel⟩, by decide +kernel⟩
theorem cv_L_182 : sj_V RL 182 mX7_digest 0 := ⟨wr_43 _ (List.mem_of_getElem? (i := 11) (by decide +kernel)), wr_43 _ (List.mem_of_getElem? (i := 12) (by decide +kernel)), wr_43 _ (List.mem_of_getElem? (i := 13) (by decide +kernel)), wr_1 _ (List.mem_of_getElem? (i := 5) (by decide +kernel)), wr_43 _ (List.mem_of_getElem? (i := 14) (by decide +kernel)), ⟨by decide +kernel, by decide +kernel⟩, by decide +kernel⟩
theorem cv_X0_17 : sj_Vi RX0 17 mX4_init 0 := ⟨wr_5 _ (List.mem_of_getElem? (i := 16) (by decide +kernel)), wr_2 _ (List.mem_of_getElem? (i := 21) (by decide +kernel)), wr_1 _ (List.mem_of_getElem? (i := 19) (by decide +kernel)), wr_2 _ (List.mem_of_getElem? (i := 22) (by decide +kernel)), ⟨by decide +kernel, by decide +kernel⟩, by decide +kernel⟩
theorem cv_X0_22 : sj_V RX0 22 mX0_newestSlot 0 := ⟨wr_8 _ (List.mem_of_getElem? (i := 20) (by decide +kernel)), wr_8 _ (List.mem_of_getElem? (i := 21) (by decide +kernel)), wr_8 _ (List.mem_of_getElem? (i := 22) (by decide +kernel)), wr_1 _ (List.mem_of_getElem? (i := 23) (by decide +kernel)), wr_8 _ (List.mem_of_getElem? (i := 23) (by decide +kernel)), ⟨by decide +kernel, by decide +kernel⟩, by decide +kernel⟩
theorem cv_X0_26 : sj_V RX0 26 mX4_takeOver 1 := ⟨wr_9 _ (List.mem_of_getElem? (i := 0) (by decide +kernel)), wr_9 _ (List.mem_of_getElem? (i := 1) (by decide +kernel)), wr_9 _ (List.mem_of_getElem? (i := 2) (by decide +kernel)), wr_1 _ (List.mem_of_getElem? (i := 19) (by decide +kernel)), wr_9 _ (List.mem_of_getElem? (i := 3) (by decide +kernel)), ⟨by decide +kernel, by decide +kernel⟩, by decide +kernel⟩
theorem cv_X1_11 : sj_Vi RX1 11 mX2_init 1 := ⟨wr_4 _ (List.mem_of_getElem? (i := 12) (by decide +kernel)), wr_2 _ (List.mem_of_getElem? (i := 15) (by decide +kernel)), wr_2 _ (List.mem_of_getElem? (i := 8) (by decide +kernel)), wr_2 _ (List.mem_of_getElem? (i := 16) (by decide +kernel)), ⟨by decide +kernel, by decide +kernel⟩, by decide +kernel⟩
theorem cv_X1_36 : sj_V RX1 36 mX2_copyFrom 1 := ⟨wr_9 _ (List.mem_of_getElem? (i := 11) (by decide +kernel)), wr_4 _ (List.mem_of_getElem? (i := 0) (by decide +kernel)), wr_4 _ (List.mem_of_getElem? (i := 1) (by decide +kernel)), wr_2 _ (List.mem_of_getElem? (i := 8) (by decide +kernel)), wr_4 _ (List.mem_of_getElem? (i := 2) (by decide +kernel)), ⟨by decide +kernel, by decide +kernel⟩, by decide +kernel⟩
theorem cv_X1_40 : sj_V RX1 40 mX2_put 2 := ⟨wr_4 _ (List.mem_of_getElem? (i := 21) (by decide +kernel)), wr_4 _ (List.mem_of_getElem? (i := 14) (by decide +kernel)), wr_4 _ (List.mem_of_getElem? (i := 15) (by decide +kernel)), wr_2 _ (List.mem_of_getElem? (i := 8) (by decide +kernel)), wr_4 _ (List.mem_of_getElem? (i := 16) (by decide +kernel)), ⟨by decide +kernel, by decide +kernel⟩, by decide +kernel⟩
theorem cv_X1_44 : sj_V RX1 44 mX1_joinHands 0 := ⟨wr_15 _ (List.mem_of_getElem? (i := 3) (by decide +kernel)), wr_4 _ (List.mem_of_getElem? (i := 17) (by decide +kernel)), wr_4 _ (List.mem_of_getElem? (i := 18) (by decide +kernel)), wr_3 _ (List.mem_of_getElem? (i := 9) (by decide +kernel)), wr_4 _ (List.mem_of_getElem? (i := 19) (by decide +kernel)), ⟨by decide +kernel, by decide +kernel⟩, by decide +kernel⟩
theorem cv_X1_47 : sj_V RX1 47 mX1_takeOut 1 := ⟨wr_14 _ (List.mem_of_getElem? (i := 19) (by decide +kernel)), wr_14 _ (List.mem_of_getElem? (i := 20) (by decide +kernel)), wr_14 _ (List.mem_of_getElem? (i := 21) (by decide +kernel)), wr_3 _ (List.mem_of_getElem? (i := 9) (by decide +kernel)), wr_14 _ (List.mem_of_getElem? (i := 22) (by decide +kernel)), ⟨by decide +kernel, by decide +kernel⟩, by decide +kernel⟩
theorem cv_X1_50 : sj_V RX1 50 mX1_isOf 2 := ⟨wr_14 _ (List.mem_of_getElem? (i := 15) (by decide +kernel)), wr_14 _ (List.mem_of_getElem? (i := 16) (by decide +kernel)), wr_14 _ (List.mem_of_getElem? (i := 17) (by decide +kernel)), wr_3 _ (List.mem_of_getElem? (i := 9) (by decide +kernel)), wr_14 _ (List.mem_of_getElem? (i := 18) (by decide +kernel)), ⟨by decide +kernel, by decide +kernel⟩, by decide +kernel⟩
theorem cv_X1_54 : sj_V RX1 54 mX2_at 1 := ⟨wr_4 _ (List.mem_of_getElem? (i := 22) (by decide +kernel)), wr_4 _ (List.mem_of_getElem? (i := 23) (by decide +kernel)), wr_5 _ (List.mem_of_getElem? (i := 0) (by decide +kernel)), wr_2 _ (List.mem_of_getElem? (i := 8) (by decide +kernel)), wr_5 _ (List.mem_of_getElem? (i := 1) (by decide +kernel)), ⟨by decide +kernel, by decide +kernel⟩, by decide +kernel⟩
theorem cv_X1_58 : sj_Vs RX1 58 mX1_numberWithout 2 := ⟨wr_15 _ (List.mem_of_getElem? (i := 0) (by decide +kernel)), wr_15 _ (List.mem_of_getElem? (i := 1) (by decide +kernel)), wr_3 _ (List.mem_of_getElem? (i := 9) (by decide +kernel)), wr_15 _ (List.mem_of_getElem? (i := 2) (by decide +kernel)), ⟨by decide +kernel, by decide +kernel⟩, by decide +kernel⟩
theorem cv_X1_62 : sj_V RX1 62 mX1_placeOf 2 := ⟨wr_34 _ (List.mem_of_getElem? (i := 8) (by decide +kernel)), wr_18 _ (List.mem_of_getElem? (i := 11) (by decide +kernel)), wr_18 _ (List.mem_of_getElem? (i := 12) (by decide +kernel)), wr_3 _ (List.mem_of_getElem? (i := 9) (by decide +kernel)), wr_18 _ (List.mem_of_getElem? (i := 13) (by decide +kernel)), ⟨by decide +kernel, by decide +kernel⟩, by decide +kernel⟩
theorem cv_X1_65 : sj_V RX1 65 mX1_holdsTogether 1 := ⟨wr_35 _ (List.mem_of_getElem? (i := 8) (by decide +kernel)), wr_35 _ (List.mem_of_getElem? (i := 9) (by decide +kernel)), wr_35 _ (List.mem_of_getElem? (i := 10) (by decide +kernel)), wr_3 _ (List.mem_of_getElem? (i := 9) (by decide +kernel)), wr_35 _ (List.mem_of_getElem? (i := 11) (by decide +kernel)), ⟨by decide +kernel, by decide +kernel⟩, by decide +kernel⟩
theorem cv_X1_69 : sj_V RX1 69 mX1_isInHands 3 := ⟨wr_20 _ (List.mem_of_getElem? (i := 10) (by decide +kernel)), wr_20 _ (List.mem_of_getElem? (i := 11) (by decide +kernel)), wr_20 _ (List.mem_of_getElem? (i := 12) (by decide +kernel)), wr_3 _ (List.mem_of_getElem? (i := 9) (by decide +kernel)), wr_20 _ (List.mem_of_getElem? (i := 13) (by decide +kernel)), ⟨by decide +kernel, by decide +kernel⟩, by decide +kernel⟩
theorem cv_X1_73 : sj_V RX1 73 mX1_leads 3 := ⟨wr_35 _ (List.mem_of_getElem? (i := 12) (by decide +kernel)), wr_34 _ (List.mem_of_getElem? (i := 1) (by decide +kernel)), wr_34 _ (List.mem_of_getElem? (i := 2) (by decide +kernel)), wr_3 _ (List.mem_of_getElem? (i := 9) (by decide +kernel)), wr_34 _ (List.mem_of_getElem? (i := 3) (by decide +kernel)), ⟨by decide +kernel, by decide +kernel⟩, by decide +kernel⟩
theorem cv_X1_76 : sj_V RX1 76 mX2_closeUp 1 := ⟨wr_14 _ (List.mem_of_getElem? (i := 23) (by decide +kernel)), wr_14 _ (List.mem_of_getElem? (i := 8) (by decide +kernel)), wr_14 _ (List.mem_of_getElem? (i := 9) (by decide +kernel)), wr_2 _ (List.mem_of_getElem? (i := 8) (by decide +kernel)), wr_14 _ (List.mem_of_getElem? (i := 10) (by decide +kernel)), ⟨by decide +kernel, by decide +kernel⟩, by decide +kernel⟩
theorem cv_X1_79 : sj_V RX1 79 mX1_joinTwo 2 := ⟨wr_5 _ (List.mem_of_getElem? (i := 2) (by decide +kernel)), wr_5 _ (List.mem_of_getElem? (i := 3) (by decide +kernel)), wr_5 _ (List.mem_of_getElem? (i := 4) (by decide +kernel)), wr_3 _ (List.mem_of_getElem? (i := 9) (by decide +kernel)), wr_5 _ (List.mem_of_getElem? (i := 5) (by decide +kernel)), ⟨by decide +kernel, by decide +kernel⟩, by decide +kernel⟩
theorem cv_X1_82 : Cond.methodLink RX1 82 Lib.Math.min.name ∈ sj_GT ∧ Cond.static Lib.Math.min.name ∈ sj_GT ∧ Cond.initialized "java/lang/Math" ∈ sj_GT ∧ Cond.code Lib.Math.min.name Lib.Math.min.code 2 (some .int) ∈ sj_GT := ⟨wr_5 _ (List.mem_of_getElem? (i := 6) (by decide +kernel)), wr_5 _ (List.mem_of_getElem? (i := 7) (by decide +kernel)), wr_5 _ (List.mem_of_getElem? (i := 8) (by decide +kernel)), wr_5 _ (List.mem_of_getElem? (i := 9) (by decide +kernel))⟩
theorem cv_X3_11 : sj_Vi RX3 11 mX2_init 1 := ⟨wr_3 _ (List.mem_of_getElem? (i := 22) (by decide +kernel)), wr_2 _ (List.mem_of_getElem? (i := 15) (by decide +kernel)), wr_2 _ (List.mem_of_getElem? (i := 8) (by decide +kernel)), wr_2 _ (List.mem_of_getElem? (i := 16) (by decide +kernel)), ⟨by decide +kernel, by decide +kernel⟩, by decide +kernel⟩
theorem cv_X3_27 : sj_V RX3 27 mX2_copyFrom 1 := ⟨wr_3 _ (List.mem_of_getElem? (i := 23) (by decide +kernel)), wr_4 _ (List.mem_of_getElem? (i := 0) (by decide +kernel)), wr_4 _ (List.mem_of_getElem? (i := 1) (by decide +kernel)), wr_2 _ (List.mem_of_getElem? (i := 8) (by decide +kernel)), wr_4 _ (List.mem_of_getElem? (i := 2) (by decide +kernel)), ⟨by decide +kernel, by decide +kernel⟩, by decide +kernel⟩
theorem cv_X3_31 : sj_V RX3 31 mX3_total 1 := ⟨wr_9 _ (List.mem_of_getElem? (i := 17) (by decide +kernel)), wr_9 _ (List.mem_of_getElem? (i := 18) (by decide +kernel)), wr_9 _ (List.mem_of_getElem? (i := 19) (by decide +kernel)), wr_3 _ (List.mem_of_getElem? (i := 2) (by decide +kernel)), wr_9 _ (List.mem_of_getElem? (i := 20) (by decide +kernel)), ⟨by decide +kernel, by decide +kernel⟩, by decide +kernel⟩
theorem cv_X3_35 : sj_Vs RX3 35 mX3_mean 2 := ⟨wr_10 _ (List.mem_of_getElem? (i := 2) (by decide +kernel)), wr_10 _ (List.mem_of_getElem? (i := 3) (by decide +kernel)), wr_3 _ (List.mem_of_getElem? (i := 2) (by decide +kernel)), wr_10 _ (List.mem_of_getElem? (i := 4) (by decide +kernel)), ⟨by decide +kernel, by decide +kernel⟩, by decide +kernel⟩
theorem cv_X3_39 : sj_V RX3 39 mX2_put 2 := ⟨wr_10 _ (List.mem_of_getElem? (i := 9) (by decide +kernel)), wr_4 _ (List.mem_of_getElem? (i := 14) (by decide +kernel)), wr_4 _ (List.mem_of_getElem? (i := 15) (by decide +kernel)), wr_2 _ (List.mem_of_getElem? (i := 8) (by decide +kernel)), wr_4 _ (List.mem_of_getElem? (i := 16) (by decide +kernel)), ⟨by decide +kernel, by decide +kernel⟩, by decide +kernel⟩
theorem cv_X3_43 : sj_V RX3 43 mX3_slantRange 0 := ⟨wr_10 _ (List.mem_of_getElem? (i := 10) (by decide +kernel)), wr_10 _ (List.mem_of_getElem? (i := 11) (by decide +kernel)), wr_10 _ (List.mem_of_getElem? (i := 12) (by decide +kernel)), wr_3 _ (List.mem_of_getElem? (i := 2) (by decide +kernel)), wr_10 _ (List.mem_of_getElem? (i := 13) (by decide +kernel)), ⟨by decide +kernel, by decide +kernel⟩, by decide +kernel⟩
theorem cv_X3_47 : sj_V RX3 47 mX3_loopHeights 0 := ⟨wr_10 _ (List.mem_of_getElem? (i := 18) (by decide +kernel)), wr_10 _ (List.mem_of_getElem? (i := 19) (by decide +kernel)), wr_10 _ (List.mem_of_getElem? (i := 20) (by decide +kernel)), wr_3 _ (List.mem_of_getElem? (i := 2) (by decide +kernel)), wr_10 _ (List.mem_of_getElem? (i := 21) (by decide +kernel)), ⟨by decide +kernel, by decide +kernel⟩, by decide +kernel⟩
theorem cv_X3_50 : sj_V RX3 50 mX3_pressureSteps 0 := ⟨wr_10 _ (List.mem_of_getElem? (i := 22) (by decide +kernel)), wr_10 _ (List.mem_of_getElem? (i := 23) (by decide +kernel)), wr_11 _ (List.mem_of_getElem? (i := 0) (by decide +kernel)), wr_3 _ (List.mem_of_getElem? (i := 2) (by decide +kernel)), wr_11 _ (List.mem_of_getElem? (i := 1) (by decide +kernel)), ⟨by decide +kernel, by decide +kernel⟩, by decide +kernel⟩
theorem cv_X3_53 : sj_V RX3 53 mX3_numberOf 2 := ⟨wr_9 _ (List.mem_of_getElem? (i := 21) (by decide +kernel)), wr_9 _ (List.mem_of_getElem? (i := 22) (by decide +kernel)), wr_9 _ (List.mem_of_getElem? (i := 23) (by decide +kernel)), wr_3 _ (List.mem_of_getElem? (i := 2) (by decide +kernel)), wr_10 _ (List.mem_of_getElem? (i := 0) (by decide +kernel)), ⟨by decide +kernel, by decide +kernel⟩, by decide +kernel⟩
theorem cv_X3_56 : sj_V RX3 56 mX2_at 1 := ⟨wr_10 _ (List.mem_of_getElem? (i := 1) (by decide +kernel)), wr_4 _ (List.mem_of_getElem? (i := 23) (by decide +kernel)), wr_5 _ (List.mem_of_getElem? (i := 0) (by decide +kernel)), wr_2 _ (List.mem_of_getElem? (i := 8) (by decide +kernel)), wr_5 _ (List.mem_of_getElem? (i := 1) (by decide +kernel)), ⟨by decide +kernel, by decide +kernel⟩, by decide +kernel⟩
theorem cv_X3_59 : sj_V RX3 59 mX3_toldNumber 2 := ⟨wr_42 _ (List.mem_of_getElem? (i := 19) (by decide +kernel)), wr_32 _ (List.mem_of_getElem? (i := 11) (by decide +kernel)), wr_32 _ (List.mem_of_getElem? (i := 12) (by decide +kernel)), wr_3 _ (List.mem_of_getElem? (i := 2) (by decide +kernel)), wr_32 _ (List.mem_of_getElem? (i := 13) (by decide +kernel)), ⟨by decide +kernel, by decide +kernel⟩, by decide +kernel⟩
theorem cv_X3_62 : sj_Vsn RX3 62 mX6_mix 2 := ⟨List.mem_of_getElem? (i := 21) (by decide +kernel), wr_42 _ (List.mem_of_getElem? (i := 8) (by decide +kernel)), wr_1 _ (List.mem_of_getElem? (i := 2) (by decide +kernel)), wr_42 _ (List.mem_of_getElem? (i := 9) (by decide +kernel)), ⟨by decide +kernel, by decide +kernel⟩, by decide +kernel⟩
theorem cv_X3_66 : sj_V RX3 66 mX3_toldMark 1 := ⟨wr_42 _ (List.mem_of_getElem? (i := 20) (by decide +kernel)), wr_33 _ (List.mem_of_getElem? (i := 6) (by decide +kernel)), wr_33 _ (List.mem_of_getElem? (i := 7) (by decide +kernel)), wr_3 _ (List.mem_of_getElem? (i := 2) (by decide +kernel)), wr_33 _ (List.mem_of_getElem? (i := 8) (by decide +kernel)), ⟨by decide +kernel, by decide +kernel⟩, by decide +kernel⟩
theorem cv_X3_69 : Cond.methodLink RX3 69 Lib.Math.min.name ∈ sj_GT ∧ Cond.static Lib.Math.min.name ∈ sj_GT ∧ Cond.initialized "java/lang/Math" ∈ sj_GT ∧ Cond.code Lib.Math.min.name Lib.Math.min.code 2 (some .int) ∈ sj_GT := ⟨wr_10 _ (List.mem_of_getElem? (i := 14) (by decide +kernel)), wr_5 _ (List.mem_of_getElem? (i := 7) (by decide +kernel)), wr_5 _ (List.mem_of_getElem? (i := 8) (by decide +kernel)), wr_5 _ (List.mem_of_getElem? (i := 9) (by decide +kernel))⟩
theorem cv_X3_74 : Cond.methodLink RX3 74 Lib.Math.max.name ∈ sj_GT ∧ Cond.static Lib.Math.max.name ∈ sj_GT ∧ Cond.initialized "java/lang/Math" ∈ sj_GT ∧ Cond.code Lib.Math.max.name Lib.Math.max.code 2 (some .int) ∈ sj_GT := ⟨wr_10 _ (List.mem_of_getElem? (i := 15) (by decide +kernel)), wr_10 _ (List.mem_of_getElem? (i := 16) (by decide +kernel)), wr_5 _ (List.mem_of_getElem? (i := 8) (by decide +kernel)), wr_10 _ (List.mem_of_getElem? (i := 17) (by decide +kernel))⟩
theorem cv_X3_77 : Cond.methodLink RX3 77 Lib.Math.abs.name ∈ sj_GT ∧ Cond.static Lib.Math.abs.name ∈ sj_GT ∧ Cond.initialized "java/lang/Math" ∈ sj_GT ∧ Cond.code Lib.Math.abs.name Lib.Math.abs.code 1 (some .int) ∈ sj_GT := ⟨wr_11 _ (List.mem_of_getElem? (i := 2) (by decide +kernel)), wr_11 _ (List.mem_of_getElem? (i := 3) (by decide +kernel)), wr_5 _ (List.mem_of_getElem? (i := 8) (by decide +kernel)), wr_11 _ (List.mem_of_getElem? (i := 4) (by decide +kernel))⟩
theorem cv_X3_80 : sj_Vs RX3 80 mJ9_floorDiv_7cf53 2 := ⟨wr_10 _ (List.mem_of_getElem? (i := 5) (by decide +kernel)), wr_10 _ (List.mem_of_getElem? (i := 6) (by decide +kernel)), wr_10 _ (List.mem_of_getElem? (i := 7) (by decide +kernel)), wr_10 _ (List.mem_of_getElem? (i := 8) (by decide +kernel)), ⟨by decide +kernel, by decide +kernel⟩, by decide +kernel⟩
theorem cv_X4_11 : sj_Vi RX4 11 mX3_init 2 := ⟨wr_3 _ (List.mem_of_getElem? (i := 14) (by decide +kernel)), wr_3 _ (List.mem_of_getElem? (i := 15) (by decide +kernel)), wr_3 _ (List.mem_of_getElem? (i := 2) (by decide +kernel)), wr_3 _ (List.mem_of_getElem? (i := 16) (by decide +kernel)), ⟨by decide +kernel, by decide +kernel⟩, by decide +kernel⟩
theorem cv_X4_26 : sj_Vi RX4 26 mX2_init 1 := ⟨wr_4 _ (List.mem_of_getElem? (i := 3) (by decide +kernel)), wr_2 _ (List.mem_of_getElem? (i := 15) (by decide +kernel)), wr_2 _ (List.mem_of_getElem? (i := 8) (by decide +kernel)), wr_2 _ (List.mem_of_getElem? (i := 16) (by decide +kernel)), ⟨by decide +kernel, by decide +kernel⟩, by decide +kernel⟩
theorem cv_X4_35 : sj_Vin RX4 35 mX1_init 0 := ⟨List.mem_of_getElem? (i := 22) (by decide +kernel), wr_4 _ (List.mem_of_getElem? (i := 4) (by decide +kernel)), wr_3 _ (List.mem_of_getElem? (i := 9) (by decide +kernel)), wr_4 _ (List.mem_of_getElem? (i := 5) (by decide +kernel)), ⟨by decide +kernel, by decide +kernel⟩, by decide +kernel⟩
theorem cv_X4_54 : sj_V RX4 54 mX2_put 2 := ⟨wr_4 _ (List.mem_of_getElem? (i := 13) (by decide +kernel)), wr_4 _ (List.mem_of_getElem? (i := 14) (by decide +kernel)), wr_4 _ (List.mem_of_getElem? (i := 15) (by decide +kernel)), wr_2 _ (List.mem_of_getElem? (i := 8) (by decide +kernel)), wr_4 _ (List.mem_of_getElem? (i := 16) (by decide +kernel)), ⟨by decide +kernel, by decide +kernel⟩, by decide +kernel⟩
theorem cv_X4_58 : sj_Vn RX4 58 mX1_joinHands 0 := ⟨List.mem_of_getElem? (i := 23) (by decide +kernel), wr_4 _ (List.mem_of_getElem? (i := 17) (by decide +kernel)), wr_4 _ (List.mem_of_getElem? (i := 18) (by decide +kernel)), wr_3 _ (List.mem_of_getElem? (i := 9) (by decide +kernel)), wr_4 _ (List.mem_of_getElem? (i := 19) (by decide +kernel)), ⟨by decide +kernel, by decide +kernel⟩, by decide +kernel⟩
theorem cv_X4_61 : sj_V RX4 61 mX2_copyFrom 1 := ⟨wr_9 _ (List.mem_of_getElem? (i := 5) (by decide +kernel)), wr_4 _ (List.mem_of_getElem? (i := 0) (by decide +kernel)), wr_4 _ (List.mem_of_getElem? (i := 1) (by decide +kernel)), wr_2 _ (List.mem_of_getElem? (i := 8) (by decide +kernel)), wr_4 _ (List.mem_of_getElem? (i := 2) (by decide +kernel)), ⟨by decide +kernel, by decide +kernel⟩, by decide +kernel⟩
theorem cv_X4_68 : sj_V RX4 68 mX1_takeOver 1 := ⟨wr_9 _ (List.mem_of_getElem? (i := 6) (by decide +kernel)), wr_9 _ (List.mem_of_getElem? (i := 7) (by decide +kernel)), wr_9 _ (List.mem_of_getElem? (i := 8) (by decide +kernel)), wr_3 _ (List.mem_of_getElem? (i := 9) (by decide +kernel)), wr_9 _ (List.mem_of_getElem? (i := 9) (by decide +kernel)), ⟨by decide +kernel, by decide +kernel⟩, by decide +kernel⟩
theorem cv_X4_72 : sj_V RX4 72 mX2_closeUp 1 := ⟨wr_14 _ (List.mem_of_getElem? (i := 7) (by decide +kernel)), wr_14 _ (List.mem_of_getElem? (i := 8) (by decide +kernel)), wr_14 _ (List.mem_of_getElem? (i := 9) (by decide +kernel)), wr_2 _ (List.mem_of_getElem? (i := 8) (by decide +kernel)), wr_14 _ (List.mem_of_getElem? (i := 10) (by decide +kernel)), ⟨by decide +kernel, by decide +kernel⟩, by decide +kernel⟩
theorem cv_X4_75 : sj_V RX4 75 mX1_forgetSheet 1 := ⟨wr_14 _ (List.mem_of_getElem? (i := 11) (by decide +kernel)), wr_14 _ (List.mem_of_getElem? (i := 12) (by decide +kernel)), wr_14 _ (List.mem_of_getElem? (i := 13) (by decide +kernel)), wr_3 _ (List.mem_of_getElem? (i := 9) (by decide +kernel)), wr_14 _ (List.mem_of_getElem? (i := 14) (by decide +kernel)), ⟨by decide +kernel, by decide +kernel⟩, by decide +kernel⟩
theorem cv_X4_79 : sj_V RX4 79 mX2_at 1 := ⟨wr_16 _ (List.mem_of_getElem? (i := 13) (by decide +kernel)), wr_4 _ (List.mem_of_getElem? (i := 23) (by decide +kernel)), wr_5 _ (List.mem_of_getElem? (i := 0) (by decide +kernel)), wr_2 _ (List.mem_of_getElem? (i := 8) (by decide +kernel)), wr_5 _ (List.mem_of_getElem? (i := 1) (by decide +kernel)), ⟨by decide +kernel, by decide +kernel⟩, by decide +kernel⟩
theorem cv_X4_82 : Cond.methodLink RX4 82 Lib.Math.min.name ∈ sj_GT ∧ Cond.static Lib.Math.min.name ∈ sj_GT ∧ Cond.initialized "java/lang/Math" ∈ sj_GT ∧ Cond.code Lib.Math.min.name Lib.Math.min.code 2 (some .int) ∈ sj_GT := ⟨wr_16 _ (List.mem_of_getElem? (i := 11) (by decide +kernel)), wr_5 _ (List.mem_of_getElem? (i := 7) (by decide +kernel)), wr_5 _ (List.mem_of_getElem? (i := 8) (by decide +kernel)), wr_5 _ (List.mem_of_getElem? (i := 9) (by decide +kernel))⟩
theorem cv_X4_88 : Cond.methodLink RX4 88 Lib.Math.max.name ∈ sj_GT ∧ Cond.static Lib.Math.max.name ∈ sj_GT ∧ Cond.initialized "java/lang/Math" ∈ sj_GT ∧ Cond.code Lib.Math.max.name Lib.Math.max.code 2 (some .int) ∈ sj_GT := ⟨wr_16 _ (List.mem_of_getElem? (i := 12) (by decide +kernel)), wr_10 _ (List.mem_of_getElem? (i := 16) (by decide +kernel)), wr_5 _ (List.mem_of_getElem? (i := 8) (by decide +kernel)), wr_10 _ (List.mem_of_getElem? (i := 17) (by decide +kernel))⟩
theorem cv_X4_91 : sj_V RX4 91 mX4_sheetAt 1 := ⟨wr_19 _ (List.mem_of_getElem? (i := 2) (by decide +kernel)), wr_19 _ (List.mem_of_getElem? (i := 3) (by decide +kernel)), wr_19 _ (List.mem_of_getElem? (i := 4) (by decide +kernel)), wr_1 _ (List.mem_of_getElem? (i := 19) (by decide +kernel)), wr_19 _ (List.mem_of_getElem? (i := 5) (by decide +kernel)), ⟨by decide +kernel, by decide +kernel⟩, by decide +kernel⟩
theorem cv_X4_98 : sj_V RX4 98 mX3_total 1 := ⟨wr_19 _ (List.mem_of_getElem? (i := 6) (by decide +kernel)), wr_9 _ (List.mem_of_getElem? (i := 18) (by decide +kernel)), wr_9 _ (List.mem_of_getElem? (i := 19) (by decide +kernel)), wr_3 _ (List.mem_of_getElem? (i := 2) (by decide +kernel)), wr_9 _ (List.mem_of_getElem? (i := 20) (by decide +kernel)), ⟨by decide +kernel, by decide +kernel⟩, by decide +kernel⟩
theorem cv_X4_101 : sj_V RX4 101 mX4_trembles 1 := ⟨wr_18 _ (List.mem_of_getElem? (i := 22) (by decide +kernel)), wr_18 _ (List.mem_of_getElem? (i := 23) (by decide +kernel)), wr_19 _ (List.mem_of_getElem? (i := 0) (by decide +kernel)), wr_1 _ (List.mem_of_getElem? (i := 19) (by decide +kernel)), wr_19 _ (List.mem_of_getElem? (i := 1) (by decide +kernel)), ⟨by decide +kernel, by decide +kernel⟩, by decide +kernel⟩
theorem cv_X4_105 : sj_V RX4 105 mX1_handOf 1 := ⟨wr_18 _ (List.mem_of_getElem? (i := 18) (by decide +kernel)), wr_18 _ (List.mem_of_getElem? (i := 19) (by decide +kernel)), wr_18 _ (List.mem_of_getElem? (i := 20) (by decide +kernel)), wr_3 _ (List.mem_of_getElem? (i := 9) (by decide +kernel)), wr_18 _ (List.mem_of_getElem? (i := 21) (by decide +kernel)), ⟨by decide +kernel, by decide +kernel⟩, by decide +kernel⟩
theorem cv_X4_108 : sj_V RX4 108 mX1_ofSheet 1 := ⟨wr_31 _ (List.mem_of_getElem? (i := 6) (by decide +kernel)), wr_31 _ (List.mem_of_getElem? (i := 7) (by decide +kernel)), wr_31 _ (List.mem_of_getElem? (i := 8) (by decide +kernel)), wr_3 _ (List.mem_of_getElem? (i := 9) (by decide +kernel)), wr_31 _ (List.mem_of_getElem? (i := 9) (by decide +kernel)), ⟨by decide +kernel, by decide +kernel⟩, by decide +kernel⟩
theorem cv_X4_111 : sj_V RX4 111 mX4_fadedMarks 1 := ⟨wr_19 _ (List.mem_of_getElem? (i := 19) (by decide +kernel)), wr_19 _ (List.mem_of_getElem? (i := 20) (by decide +kernel)), wr_19 _ (List.mem_of_getElem? (i := 21) (by decide +kernel)), wr_1 _ (List.mem_of_getElem? (i := 19) (by decide +kernel)), wr_19 _ (List.mem_of_getElem? (i := 22) (by decide +kernel)), ⟨by decide +kernel, by decide +kernel⟩, by decide +kernel⟩
theorem cv_X4_115 : sj_V RX4 115 mX1_ofOneHand 0 := ⟨wr_36 _ (List.mem_of_getElem? (i := 16) (by decide +kernel)), wr_36 _ (List.mem_of_getElem? (i := 17) (by decide +kernel)), wr_36 _ (List.mem_of_getElem? (i := 18) (by decide +kernel)), wr_3 _ (List.mem_of_getElem? (i := 9) (by decide +kernel)), wr_36 _ (List.mem_of_getElem? (i := 19) (by decide +kernel)), ⟨by decide +kernel, by decide +kernel⟩, by decide +kernel⟩
theorem cv_X4_119 : sj_V RX4 119 mX4_hands 0 := ⟨wr_36 _ (List.mem_of_getElem? (i := 20) (by decide +kernel)), wr_20 _ (List.mem_of_getElem? (i := 19) (by decide +kernel)), wr_20 _ (List.mem_of_getElem? (i := 20) (by decide +kernel)), wr_1 _ (List.mem_of_getElem? (i := 19) (by decide +kernel)), wr_20 _ (List.mem_of_getElem? (i := 21) (by decide +kernel)), ⟨by decide +kernel, by decide +kernel⟩, by decide +kernel⟩
theorem cv_X4_122 : sj_V RX4 122 mX4_mostOfAHand 0 := ⟨wr_36 _ (List.mem_of_getElem? (i := 21) (by decide +kernel)), wr_36 _ (List.mem_of_getElem? (i := 22) (by decide +kernel)), wr_36 _ (List.mem_of_getElem? (i := 23) (by decide +kernel)), wr_1 _ (List.mem_of_getElem? (i := 19) (by decide +kernel)), wr_37 _ (List.mem_of_getElem? (i := 0) (by decide +kernel)), ⟨by decide +kernel, by decide +kernel⟩, by decide +kernel⟩
theorem cv_X4_125 : sj_V RX4 125 mX4_tremblingSheets 0 := ⟨wr_37 _ (List.mem_of_getElem? (i := 1) (by decide +kernel)), wr_37 _ (List.mem_of_getElem? (i := 2) (by decide +kernel)), wr_37 _ (List.mem_of_getElem? (i := 3) (by decide +kernel)), wr_1 _ (List.mem_of_getElem? (i := 19) (by decide +kernel)), wr_37 _ (List.mem_of_getElem? (i := 4) (by decide +kernel)), ⟨by decide +kernel, by decide +kernel⟩, by decide +kernel⟩
theorem cv_X4_131 : sj_V RX4 131 mX4_likePairs 0 := ⟨wr_37 _ (List.mem_of_getElem? (i := 5) (by decide +kernel)), wr_37 _ (List.mem_of_getElem? (i := 6) (by decide +kernel)), wr_37 _ (List.mem_of_getElem? (i := 7) (by decide +kernel)), wr_1 _ (List.mem_of_getElem? (i := 19) (by decide +kernel)), wr_37 _ (List.mem_of_getElem? (i := 8) (by decide +kernel)), ⟨by decide +kernel, by decide +kernel⟩, by decide +kernel⟩
theorem cv_X4_134 : sj_V RX4 134 mX4_likeness 3 := ⟨wr_19 _ (List.mem_of_getElem? (i := 7) (by decide +kernel)), wr_19 _ (List.mem_of_getElem? (i := 8) (by decide +kernel)), wr_19 _ (List.mem_of_getElem? (i := 9) (by decide +kernel)), wr_1 _ (List.mem_of_getElem? (i := 19) (by decide +kernel)), wr_19 _ (List.mem_of_getElem? (i := 10) (by decide +kernel)), ⟨by decide +kernel, by decide +kernel⟩, by decide +kernel⟩
theorem cv_X4_138 : sj_V RX4 138 mX4_agreeing 3 := ⟨wr_19 _ (List.mem_of_getElem? (i := 11) (by decide +kernel)), wr_19 _ (List.mem_of_getElem? (i := 12) (by decide +kernel)), wr_19 _ (List.mem_of_getElem? (i := 13) (by decide +kernel)), wr_1 _ (List.mem_of_getElem? (i := 19) (by decide +kernel)), wr_19 _ (List.mem_of_getElem? (i := 14) (by decide +kernel)), ⟨by decide +kernel, by decide +kernel⟩, by decide +kernel⟩
theorem cv_X4_141 : sj_V RX4 141 mX1_leads 3 := ⟨wr_34 _ (List.mem_of_getElem? (i := 0) (by decide +kernel)), wr_34 _ (List.mem_of_getElem? (i := 1) (by decide +kernel)), wr_34 _ (List.mem_of_getElem? (i := 2) (by decide +kernel)), wr_3 _ (List.mem_of_getElem? (i := 9) (by decide +kernel)), wr_34 _ (List.mem_of_getElem? (i := 3) (by decide +kernel)), ⟨by decide +kernel, by decide +kernel⟩, by decide +kernel⟩
theorem cv_X4_145 : sj_V RX4 145 mX4_areOfOneHand 2 := ⟨wr_18 _ (List.mem_of_getElem? (i := 14) (by decide +kernel)), wr_18 _ (List.mem_of_getElem? (i := 15) (by decide +kernel)), wr_18 _ (List.mem_of_getElem? (i := 16) (by decide +kernel)), wr_1 _ (List.mem_of_getElem? (i := 19) (by decide +kernel)), wr_18 _ (List.mem_of_getElem? (i := 17) (by decide +kernel)), ⟨by decide +kernel, by decide +kernel⟩, by decide +kernel⟩
theorem cv_X4_149 : sj_V RX4 149 mX1_kindOf 2 := ⟨wr_34 _ (List.mem_of_getElem? (i := 4) (by decide +kernel)), wr_34 _ (List.mem_of_getElem? (i := 5) (by decide +kernel)), wr_34 _ (List.mem_of_getElem? (i := 6) (by decide +kernel)), wr_3 _ (List.mem_of_getElem? (i := 9) (by decide +kernel)), wr_34 _ (List.mem_of_getElem? (i := 7) (by decide +kernel)), ⟨by decide +kernel, by decide +kernel⟩, by decide +kernel⟩
theorem cv_X4_152 : sj_V RX4 152 mX1_placeOf 2 := ⟨wr_18 _ (List.mem_of_getElem? (i := 10) (by decide +kernel)), wr_18 _ (List.mem_of_getElem? (i := 11) (by decide +kernel)), wr_18 _ (List.mem_of_getElem? (i := 12) (by decide +kernel)), wr_3 _ (List.mem_of_getElem? (i := 9) (by decide +kernel)), wr_18 _ (List.mem_of_getElem? (i := 13) (by decide +kernel)), ⟨by decide +kernel, by decide +kernel⟩, by decide +kernel⟩
theorem cv_X4_155 : sj_V RX4 155 mX1_forbidJoining 2 := ⟨wr_20 _ (List.mem_of_getElem? (i := 6) (by decide +kernel)), wr_20 _ (List.mem_of_getElem? (i := 7) (by decide +kernel)), wr_20 _ (List.mem_of_getElem? (i := 8) (by decide +kernel)), wr_3 _ (List.mem_of_getElem? (i := 9) (by decide +kernel)), wr_20 _ (List.mem_of_getElem? (i := 9) (by decide +kernel)), ⟨by decide +kernel, by decide +kernel⟩, by decide +kernel⟩
theorem cv_X4_158 : sj_Vs RX4 158 mJ6_bitCount_0f7a4 1 := ⟨wr_19 _ (List.mem_of_getElem? (i := 23) (by decide +kernel)), wr_20 _ (List.mem_of_getElem? (i := 0) (by decide +kernel)), wr_20 _ (List.mem_of_getElem? (i := 1) (by decide +kernel)), wr_20 _ (List.mem_of_getElem? (i := 2) (by decide +kernel)), ⟨by decide +kernel, by decide +kernel⟩, by decide +kernel⟩
theorem cv_X4_166 : Cond.methodLink RX4 166 Lib.Math.abs.name ∈ sj_GT ∧ Cond.static Lib.Math.abs.name ∈ sj_GT ∧ Cond.initialized "java/lang/Math" ∈ sj_GT ∧ Cond.code Lib.Math.abs.name Lib.Math.abs.code 1 (some .int) ∈ sj_GT := ⟨wr_19 _ (List.mem_of_getElem? (i := 15) (by decide +kernel)), wr_11 _ (List.mem_of_getElem? (i := 3) (by decide +kernel)), wr_5 _ (List.mem_of_getElem? (i := 8) (by decide +kernel)), wr_11 _ (List.mem_of_getElem? (i := 4) (by decide +kernel))⟩
theorem cv_X4_169 : sj_Vs RX4 169 mX4_allowance 2 := ⟨wr_19 _ (List.mem_of_getElem? (i := 16) (by decide +kernel)), wr_19 _ (List.mem_of_getElem? (i := 17) (by decide +kernel)), wr_1 _ (List.mem_of_getElem? (i := 19) (by decide +kernel)), wr_19 _ (List.mem_of_getElem? (i := 18) (by decide +kernel)), ⟨by decide +kernel, by decide +kernel⟩, by decide +kernel⟩
theorem cv_X5_11 : sj_Vi RX5 11 mX2_init 1 := ⟨wr_2 _ (List.mem_of_getElem? (i := 14) (by decide +kernel)), wr_2 _ (List.mem_of_getElem? (i := 15) (by decide +kernel)), wr_2 _ (List.mem_of_getElem? (i := 8) (by decide +kernel)), wr_2 _ (List.mem_of_getElem? (i := 16) (by decide +kernel)), ⟨by decide +kernel, by decide +kernel⟩, by decide +kernel⟩
theorem cv_X5_36 : sj_V RX5 36 mX2_put 2 := ⟨wr_8 _ (List.mem_of_getElem? (i := 9) (by decide +kernel)), wr_4 _ (List.mem_of_getElem? (i := 14) (by decide +kernel)), wr_4 _ (List.mem_of_getElem? (i := 15) (by decide +kernel)), wr_2 _ (List.mem_of_getElem? (i := 8) (by decide +kernel)), wr_4 _ (List.mem_of_getElem? (i := 16) (by decide +kernel)), ⟨by decide +kernel, by decide +kernel⟩, by decide +kernel⟩
theorem cv_X5_40 : sj_Vsn RX5 40 mX6_mix 2 := ⟨List.mem_of_getElem? (i := 24) (by decide +kernel), wr_42 _ (List.mem_of_getElem? (i := 8) (by decide +kernel)), wr_1 _ (List.mem_of_getElem? (i := 2) (by decide +kernel)), wr_42 _ (List.mem_of_getElem? (i := 9) (by decide +kernel)), ⟨by decide +kernel, by decide +kernel⟩, by decide +kernel⟩
theorem cv_X5_44 : sj_V RX5 44 mX2_at 1 := ⟨wr_7 _ (List.mem_of_getElem? (i := 20) (by decide +kernel)), wr_4 _ (List.mem_of_getElem? (i := 23) (by decide +kernel)), wr_5 _ (List.mem_of_getElem? (i := 0) (by decide +kernel)), wr_2 _ (List.mem_of_getElem? (i := 8) (by decide +kernel)), wr_5 _ (List.mem_of_getElem? (i := 1) (by decide +kernel)), ⟨by decide +kernel, by decide +kernel⟩, by decide +kernel⟩
theorem cv_X5_48 : sj_V RX5 48 mX5_begin 0 := ⟨wr_6 _ (List.mem_of_getElem? (i := 23) (by decide +kernel)), wr_7 _ (List.mem_of_getElem? (i := 0) (by decide +kernel)), wr_7 _ (List.mem_of_getElem? (i := 1) (by decide +kernel)), wr_1 _ (List.mem_of_getElem? (i := 15) (by decide +kernel)), wr_7 _ (List.mem_of_getElem? (i := 2) (by decide +kernel)), ⟨by decide +kernel, by decide +kernel⟩, by decide +kernel⟩
theorem cv_X5_51 : sj_V RX5 51 mX5_readStroke 0 := ⟨wr_7 _ (List.mem_of_getElem? (i := 7) (by decide +kernel)), wr_7 _ (List.mem_of_getElem? (i := 8) (by decide +kernel)), wr_7 _ (List.mem_of_getElem? (i := 9) (by decide +kernel)), wr_1 _ (List.mem_of_getElem? (i := 15) (by decide +kernel)), wr_7 _ (List.mem_of_getElem? (i := 10) (by decide +kernel)), ⟨by decide +kernel, by decide +kernel⟩, by decide +kernel⟩
theorem cv_X5_54 : sj_V RX5 54 mX5_skip 1 := ⟨wr_7 _ (List.mem_of_getElem? (i := 11) (by decide +kernel)), wr_7 _ (List.mem_of_getElem? (i := 12) (by decide +kernel)), wr_7 _ (List.mem_of_getElem? (i := 13) (by decide +kernel)), wr_1 _ (List.mem_of_getElem? (i := 15) (by decide +kernel)), wr_7 _ (List.mem_of_getElem? (i := 14) (by decide +kernel)), ⟨by decide +kernel, by decide +kernel⟩, by decide +kernel⟩
theorem cv_X5_58 : sj_V RX5 58 mX5_isComplete 0 := ⟨wr_8 _ (List.mem_of_getElem? (i := 10) (by decide +kernel)), wr_8 _ (List.mem_of_getElem? (i := 11) (by decide +kernel)), wr_8 _ (List.mem_of_getElem? (i := 12) (by decide +kernel)), wr_1 _ (List.mem_of_getElem? (i := 15) (by decide +kernel)), wr_8 _ (List.mem_of_getElem? (i := 13) (by decide +kernel)), ⟨by decide +kernel, by decide +kernel⟩, by decide +kernel⟩
theorem cv_X5_62 : sj_V RX5 62 mX5_readPart 0 := ⟨wr_26 _ (List.mem_of_getElem? (i := 18) (by decide +kernel)), wr_26 _ (List.mem_of_getElem? (i := 19) (by decide +kernel)), wr_26 _ (List.mem_of_getElem? (i := 20) (by decide +kernel)), wr_1 _ (List.mem_of_getElem? (i := 15) (by decide +kernel)), wr_26 _ (List.mem_of_getElem? (i := 21) (by decide +kernel)), ⟨by decide +kernel, by decide +kernel⟩, by decide +kernel⟩
theorem cv_X5_78 : sj_V RX5 78 mX5_readNumber 2 := ⟨wr_7 _ (List.mem_of_getElem? (i := 21) (by decide +kernel)), wr_7 _ (List.mem_of_getElem? (i := 22) (by decide +kernel)), wr_7 _ (List.mem_of_getElem? (i := 23) (by decide +kernel)), wr_1 _ (List.mem_of_getElem? (i := 15) (by decide +kernel)), wr_8 _ (List.mem_of_getElem? (i := 0) (by decide +kernel)), ⟨by decide +kernel, by decide +kernel⟩, by decide +kernel⟩
theorem cv_X5_82 : sj_V RX5 82 mX5_need 1 := ⟨wr_8 _ (List.mem_of_getElem? (i := 5) (by decide +kernel)), wr_8 _ (List.mem_of_getElem? (i := 6) (by decide +kernel)), wr_8 _ (List.mem_of_getElem? (i := 7) (by decide +kernel)), wr_1 _ (List.mem_of_getElem? (i := 15) (by decide +kernel)), wr_8 _ (List.mem_of_getElem? (i := 8) (by decide +kernel)), ⟨by decide +kernel, by decide +kernel⟩, by decide +kernel⟩
theorem cv_X5_85 : sj_V RX5 85 mX5_codeHere 0 := ⟨wr_7 _ (List.mem_of_getElem? (i := 15) (by decide +kernel)), wr_7 _ (List.mem_of_getElem? (i := 16) (by decide +kernel)), wr_7 _ (List.mem_of_getElem? (i := 17) (by decide +kernel)), wr_1 _ (List.mem_of_getElem? (i := 15) (by decide +kernel)), wr_7 _ (List.mem_of_getElem? (i := 18) (by decide +kernel)), ⟨by decide +kernel, by decide +kernel⟩, by decide +kernel⟩
theorem cv_X5_89 : sj_V RX5 89 mX5_digitHere 0 := ⟨wr_8 _ (List.mem_of_getElem? (i := 1) (by decide +kernel)), wr_8 _ (List.mem_of_getElem? (i := 2) (by decide +kernel)), wr_8 _ (List.mem_of_getElem? (i := 3) (by decide +kernel)), wr_1 _ (List.mem_of_getElem? (i := 15) (by decide +kernel)), wr_8 _ (List.mem_of_getElem? (i := 4) (by decide +kernel)), ⟨by decide +kernel, by decide +kernel⟩, by decide +kernel⟩
theorem cv_X6_9 : sj_Vin RX6 9 mX5_init 0 := ⟨List.mem_of_getElem? (i := 20) (by decide +kernel), wr_2 _ (List.mem_of_getElem? (i := 3) (by decide +kernel)), wr_1 _ (List.mem_of_getElem? (i := 15) (by decide +kernel)), wr_2 _ (List.mem_of_getElem? (i := 4) (by decide +kernel)), ⟨by decide +kernel, by decide +kernel⟩, by decide +kernel⟩
theorem cv_X6_18 : sj_Vi RX6 18 mX4_init 0 := ⟨wr_2 _ (List.mem_of_getElem? (i := 20) (by decide +kernel)), wr_2 _ (List.mem_of_getElem? (i := 21) (by decide +kernel)), wr_1 _ (List.mem_of_getElem? (i := 19) (by decide +kernel)), wr_2 _ (List.mem_of_getElem? (i := 22) (by decide +kernel)), ⟨by decide +kernel, by decide +kernel⟩, by decide +kernel⟩
theorem cv_X6_25 : sj_Vi RX6 25 mX0_init 0 := ⟨wr_5 _ (List.mem_of_getElem? (i := 10) (by decide +kernel)), wr_5 _ (List.mem_of_getElem? (i := 11) (by decide +kernel)), wr_1 _ (List.mem_of_getElem? (i := 23) (by decide +kernel)), wr_5 _ (List.mem_of_getElem? (i := 12) (by decide +kernel)), ⟨by decide +kernel, by decide +kernel⟩, by decide +kernel⟩
theorem cv_X6_37 : sj_V RX6 37 mX5_readSheet 0 := ⟨wr_6 _ (List.mem_of_getElem? (i := 19) (by decide +kernel)), wr_6 _ (List.mem_of_getElem? (i := 20) (by decide +kernel)), wr_6 _ (List.mem_of_getElem? (i := 21) (by decide +kernel)), wr_1 _ (List.mem_of_getElem? (i := 15) (by decide +kernel)), wr_6 _ (List.mem_of_getElem? (i := 22) (by decide +kernel)), ⟨by decide +kernel, by decide +kernel⟩, by decide +kernel⟩
theorem cv_X6_57 : sj_V RX6 57 mX0_save 1 := ⟨wr_8 _ (List.mem_of_getElem? (i := 14) (by decide +kernel)), wr_8 _ (List.mem_of_getElem? (i := 15) (by decide +kernel)), wr_8 _ (List.mem_of_getElem? (i := 16) (by decide +kernel)), wr_1 _ (List.mem_of_getElem? (i := 23) (by decide +kernel)), wr_8 _ (List.mem_of_getElem? (i := 17) (by decide +kernel)), ⟨by decide +kernel, by decide +kernel⟩, by decide +kernel⟩
theorem cv_X6_70 : sj_Vi RX6 70 mX3_init 2 := ⟨wr_9 _ (List.mem_of_getElem? (i := 12) (by decide +kernel)), wr_3 _ (List.mem_of_getElem? (i := 15) (by decide +kernel)), wr_3 _ (List.mem_of_getElem? (i := 2) (by decide +kernel)), wr_3 _ (List.mem_of_getElem? (i := 16) (by decide +kernel)), ⟨by decide +kernel, by decide +kernel⟩, by decide +kernel⟩
theorem cv_X6_73 : sj_V RX6 73 mX3_reckonMarks 0 := ⟨wr_9 _ (List.mem_of_getElem? (i := 13) (by decide +kernel)), wr_9 _ (List.mem_of_getElem? (i := 14) (by decide +kernel)), wr_9 _ (List.mem_of_getElem? (i := 15) (by decide +kernel)), wr_3 _ (List.mem_of_getElem? (i := 2) (by decide +kernel)), wr_9 _ (List.mem_of_getElem? (i := 16) (by decide +kernel)), ⟨by decide +kernel, by decide +kernel⟩, by decide +kernel⟩
theorem cv_X6_76 : sj_V RX6 76 mX4_putDown 2 := ⟨wr_11 _ (List.mem_of_getElem? (i := 5) (by decide +kernel)), wr_11 _ (List.mem_of_getElem? (i := 6) (by decide +kernel)), wr_11 _ (List.mem_of_getElem? (i := 7) (by decide +kernel)), wr_1 _ (List.mem_of_getElem? (i := 19) (by decide +kernel)), wr_11 _ (List.mem_of_getElem? (i := 8) (by decide +kernel)), ⟨by decide +kernel, by decide +kernel⟩, by decide +kernel⟩
theorem cv_X6_80 : sj_V RX6 80 mX5_empty 0 := ⟨wr_11 _ (List.mem_of_getElem? (i := 9) (by decide +kernel)), wr_11 _ (List.mem_of_getElem? (i := 10) (by decide +kernel)), wr_11 _ (List.mem_of_getElem? (i := 11) (by decide +kernel)), wr_1 _ (List.mem_of_getElem? (i := 15) (by decide +kernel)), wr_11 _ (List.mem_of_getElem? (i := 12) (by decide +kernel)), ⟨by decide +kernel, by decide +kernel⟩, by decide +kernel⟩
theorem cv_X6_83 : sj_V RX6 83 mX6_isThere 1 := ⟨wr_13 _ (List.mem_of_getElem? (i := 23) (by decide +kernel)), wr_14 _ (List.mem_of_getElem? (i := 0) (by decide +kernel)), wr_14 _ (List.mem_of_getElem? (i := 1) (by decide +kernel)), wr_1 _ (List.mem_of_getElem? (i := 2) (by decide +kernel)), wr_14 _ (List.mem_of_getElem? (i := 2) (by decide +kernel)), ⟨by decide +kernel, by decide +kernel⟩, by decide +kernel⟩
theorem cv_X6_92 : sj_V RX6 92 mX4_takeAway 1 := ⟨wr_14 _ (List.mem_of_getElem? (i := 3) (by decide +kernel)), wr_14 _ (List.mem_of_getElem? (i := 4) (by decide +kernel)), wr_14 _ (List.mem_of_getElem? (i := 5) (by decide +kernel)), wr_1 _ (List.mem_of_getElem? (i := 19) (by decide +kernel)), wr_14 _ (List.mem_of_getElem? (i := 6) (by decide +kernel)), ⟨by decide +kernel, by decide +kernel⟩, by decide +kernel⟩
theorem cv_X6_98 : sj_V RX6 98 mX4_growOlder 1 := ⟨wr_16 _ (List.mem_of_getElem? (i := 7) (by decide +kernel)), wr_16 _ (List.mem_of_getElem? (i := 8) (by decide +kernel)), wr_16 _ (List.mem_of_getElem? (i := 9) (by decide +kernel)), wr_1 _ (List.mem_of_getElem? (i := 19) (by decide +kernel)), wr_16 _ (List.mem_of_getElem? (i := 10) (by decide +kernel)), ⟨by decide +kernel, by decide +kernel⟩, by decide +kernel⟩
theorem cv_X6_112 : sj_V RX6 112 mX2_at 1 := ⟨wr_17 _ (List.mem_of_getElem? (i := 10) (by decide +kernel)), wr_4 _ (List.mem_of_getElem? (i := 23) (by decide +kernel)), wr_5 _ (List.mem_of_getElem? (i := 0) (by decide +kernel)), wr_2 _ (List.mem_of_getElem? (i := 8) (by decide +kernel)), wr_5 _ (List.mem_of_getElem? (i := 1) (by decide +kernel)), ⟨by decide +kernel, by decide +kernel⟩, by decide +kernel⟩
theorem cv_X6_117 : sj_V RX6 117 mX2_put 2 := ⟨wr_17 _ (List.mem_of_getElem? (i := 11) (by decide +kernel)), wr_4 _ (List.mem_of_getElem? (i := 14) (by decide +kernel)), wr_4 _ (List.mem_of_getElem? (i := 15) (by decide +kernel)), wr_2 _ (List.mem_of_getElem? (i := 8) (by decide +kernel)), wr_4 _ (List.mem_of_getElem? (i := 16) (by decide +kernel)), ⟨by decide +kernel, by decide +kernel⟩, by decide +kernel⟩
theorem cv_X6_121 : sj_V RX6 121 mX6_areThere 2 := ⟨wr_18 _ (List.mem_of_getElem? (i := 2) (by decide +kernel)), wr_18 _ (List.mem_of_getElem? (i := 3) (by decide +kernel)), wr_18 _ (List.mem_of_getElem? (i := 4) (by decide +kernel)), wr_1 _ (List.mem_of_getElem? (i := 2) (by decide +kernel)), wr_18 _ (List.mem_of_getElem? (i := 5) (by decide +kernel)), ⟨by decide +kernel, by decide +kernel⟩, by decide +kernel⟩
theorem cv_X6_125 : sj_V RX6 125 mX4_reasonAgainst 3 := ⟨wr_18 _ (List.mem_of_getElem? (i := 6) (by decide +kernel)), wr_18 _ (List.mem_of_getElem? (i := 7) (by decide +kernel)), wr_18 _ (List.mem_of_getElem? (i := 8) (by decide +kernel)), wr_1 _ (List.mem_of_getElem? (i := 19) (by decide +kernel)), wr_18 _ (List.mem_of_getElem? (i := 9) (by decide +kernel)), ⟨by decide +kernel, by decide +kernel⟩, by decide +kernel⟩
theorem cv_X6_135 : sj_V RX6 135 mX1_add 3 := ⟨wr_20 _ (List.mem_of_getElem? (i := 14) (by decide +kernel)), wr_20 _ (List.mem_of_getElem? (i := 15) (by decide +kernel)), wr_20 _ (List.mem_of_getElem? (i := 16) (by decide +kernel)), wr_3 _ (List.mem_of_getElem? (i := 9) (by decide +kernel)), wr_20 _ (List.mem_of_getElem? (i := 17) (by decide +kernel)), ⟨by decide +kernel, by decide +kernel⟩, by decide +kernel⟩
theorem cv_X6_141 : sj_V RX6 141 mX4_hands 0 := ⟨wr_20 _ (List.mem_of_getElem? (i := 18) (by decide +kernel)), wr_20 _ (List.mem_of_getElem? (i := 19) (by decide +kernel)), wr_20 _ (List.mem_of_getElem? (i := 20) (by decide +kernel)), wr_1 _ (List.mem_of_getElem? (i := 19) (by decide +kernel)), wr_20 _ (List.mem_of_getElem? (i := 21) (by decide +kernel)), ⟨by decide +kernel, by decide +kernel⟩, by decide +kernel⟩
theorem cv_X6_145 : sj_V RX6 145 mX1_placeOf 2 := ⟨wr_25 _ (List.mem_of_getElem? (i := 2) (by decide +kernel)), wr_18 _ (List.mem_of_getElem? (i := 11) (by decide +kernel)), wr_18 _ (List.mem_of_getElem? (i := 12) (by decide +kernel)), wr_3 _ (List.mem_of_getElem? (i := 9) (by decide +kernel)), wr_18 _ (List.mem_of_getElem? (i := 13) (by decide +kernel)), ⟨by decide +kernel, by decide +kernel⟩, by decide +kernel⟩
theorem cv_X6_149 : sj_V RX6 149 mX1_removeAt 1 := ⟨wr_25 _ (List.mem_of_getElem? (i := 3) (by decide +kernel)), wr_25 _ (List.mem_of_getElem? (i := 4) (by decide +kernel)), wr_25 _ (List.mem_of_getElem? (i := 5) (by decide +kernel)), wr_3 _ (List.mem_of_getElem? (i := 9) (by decide +kernel)), wr_25 _ (List.mem_of_getElem? (i := 6) (by decide +kernel)), ⟨by decide +kernel, by decide +kernel⟩, by decide +kernel⟩
theorem cv_X6_160 : sj_V RX6 160 mX5_add 1 := ⟨wr_25 _ (List.mem_of_getElem? (i := 18) (by decide +kernel)), wr_25 _ (List.mem_of_getElem? (i := 19) (by decide +kernel)), wr_25 _ (List.mem_of_getElem? (i := 20) (by decide +kernel)), wr_1 _ (List.mem_of_getElem? (i := 15) (by decide +kernel)), wr_25 _ (List.mem_of_getElem? (i := 21) (by decide +kernel)), ⟨by decide +kernel, by decide +kernel⟩, by decide +kernel⟩
theorem cv_X6_162 : sj_V RX6 162 mX5_readWorks 0 := ⟨wr_26 _ (List.mem_of_getElem? (i := 14) (by decide +kernel)), wr_26 _ (List.mem_of_getElem? (i := 15) (by decide +kernel)), wr_26 _ (List.mem_of_getElem? (i := 16) (by decide +kernel)), wr_1 _ (List.mem_of_getElem? (i := 15) (by decide +kernel)), wr_26 _ (List.mem_of_getElem? (i := 17) (by decide +kernel)), ⟨by decide +kernel, by decide +kernel⟩, by decide +kernel⟩
theorem cv_X6_170 : sj_V RX6 170 mX4_forgetStop 0 := ⟨wr_27 _ (List.mem_of_getElem? (i := 20) (by decide +kernel)), wr_27 _ (List.mem_of_getElem? (i := 21) (by decide +kernel)), wr_27 _ (List.mem_of_getElem? (i := 22) (by decide +kernel)), wr_1 _ (List.mem_of_getElem? (i := 19) (by decide +kernel)), wr_27 _ (List.mem_of_getElem? (i := 23) (by decide +kernel)), ⟨by decide +kernel, by decide +kernel⟩, by decide +kernel⟩
theorem cv_X6_176 : sj_V RX6 176 mX6_doPart 1 := ⟨wr_28 _ (List.mem_of_getElem? (i := 0) (by decide +kernel)), wr_28 _ (List.mem_of_getElem? (i := 1) (by decide +kernel)), wr_28 _ (List.mem_of_getElem? (i := 2) (by decide +kernel)), wr_1 _ (List.mem_of_getElem? (i := 2) (by decide +kernel)), wr_28 _ (List.mem_of_getElem? (i := 3) (by decide +kernel)), ⟨by decide +kernel, by decide +kernel⟩, by decide +kernel⟩
theorem cv_X6_190 : sj_V RX6 190 mX0_bringBack 1 := ⟨wr_29 _ (List.mem_of_getElem? (i := 14) (by decide +kernel)), wr_29 _ (List.mem_of_getElem? (i := 15) (by decide +kernel)), wr_29 _ (List.mem_of_getElem? (i := 16) (by decide +kernel)), wr_1 _ (List.mem_of_getElem? (i := 23) (by decide +kernel)), wr_29 _ (List.mem_of_getElem? (i := 17) (by decide +kernel)), ⟨by decide +kernel, by decide +kernel⟩, by decide +kernel⟩
theorem cv_X6_193 : sj_V RX6 193 mX4_takeOver 1 := ⟨wr_30 _ (List.mem_of_getElem? (i := 2) (by decide +kernel)), wr_9 _ (List.mem_of_getElem? (i := 1) (by decide +kernel)), wr_9 _ (List.mem_of_getElem? (i := 2) (by decide +kernel)), wr_1 _ (List.mem_of_getElem? (i := 19) (by decide +kernel)), wr_9 _ (List.mem_of_getElem? (i := 3) (by decide +kernel)), ⟨by decide +kernel, by decide +kernel⟩, by decide +kernel⟩
theorem cv_X6_200 : sj_V RX6 200 mX4_numberOfSheet 2 := ⟨wr_31 _ (List.mem_of_getElem? (i := 2) (by decide +kernel)), wr_31 _ (List.mem_of_getElem? (i := 3) (by decide +kernel)), wr_31 _ (List.mem_of_getElem? (i := 4) (by decide +kernel)), wr_1 _ (List.mem_of_getElem? (i := 19) (by decide +kernel)), wr_31 _ (List.mem_of_getElem? (i := 5) (by decide +kernel)), ⟨by decide +kernel, by decide +kernel⟩, by decide +kernel⟩
theorem cv_X6_205 : sj_V RX6 205 mX4_sheetAt 1 := ⟨wr_32 _ (List.mem_of_getElem? (i := 9) (by decide +kernel)), wr_19 _ (List.mem_of_getElem? (i := 3) (by decide +kernel)), wr_19 _ (List.mem_of_getElem? (i := 4) (by decide +kernel)), wr_1 _ (List.mem_of_getElem? (i := 19) (by decide +kernel)), wr_19 _ (List.mem_of_getElem? (i := 5) (by decide +kernel)), ⟨by decide +kernel, by decide +kernel⟩, by decide +kernel⟩
theorem cv_X6_209 : sj_V RX6 209 mX3_toldNumber 2 := ⟨wr_32 _ (List.mem_of_getElem? (i := 10) (by decide +kernel)), wr_32 _ (List.mem_of_getElem? (i := 11) (by decide +kernel)), wr_32 _ (List.mem_of_getElem? (i := 12) (by decide +kernel)), wr_3 _ (List.mem_of_getElem? (i := 2) (by decide +kernel)), wr_32 _ (List.mem_of_getElem? (i := 13) (by decide +kernel)), ⟨by decide +kernel, by decide +kernel⟩, by decide +kernel⟩
theorem cv_X6_214 : sj_V RX6 214 mX3_toldMark 1 := ⟨wr_33 _ (List.mem_of_getElem? (i := 5) (by decide +kernel)), wr_33 _ (List.mem_of_getElem? (i := 6) (by decide +kernel)), wr_33 _ (List.mem_of_getElem? (i := 7) (by decide +kernel)), wr_3 _ (List.mem_of_getElem? (i := 2) (by decide +kernel)), wr_33 _ (List.mem_of_getElem? (i := 8) (by decide +kernel)), ⟨by decide +kernel, by decide +kernel⟩, by decide +kernel⟩
theorem cv_X6_219 : sj_V RX6 219 mX4_comparison 3 := ⟨wr_33 _ (List.mem_of_getElem? (i := 20) (by decide +kernel)), wr_33 _ (List.mem_of_getElem? (i := 21) (by decide +kernel)), wr_33 _ (List.mem_of_getElem? (i := 22) (by decide +kernel)), wr_1 _ (List.mem_of_getElem? (i := 19) (by decide +kernel)), wr_33 _ (List.mem_of_getElem? (i := 23) (by decide +kernel)), ⟨by decide +kernel, by decide +kernel⟩, by decide +kernel⟩
theorem cv_X6_226 : sj_V RX6 226 mX1_numberOf 2 := ⟨wr_35 _ (List.mem_of_getElem? (i := 4) (by decide +kernel)), wr_35 _ (List.mem_of_getElem? (i := 5) (by decide +kernel)), wr_35 _ (List.mem_of_getElem? (i := 6) (by decide +kernel)), wr_3 _ (List.mem_of_getElem? (i := 9) (by decide +kernel)), wr_35 _ (List.mem_of_getElem? (i := 7) (by decide +kernel)), ⟨by decide +kernel, by decide +kernel⟩, by decide +kernel⟩
theorem cv_X6_231 : sj_V RX6 231 mX6_toldCount 1 := ⟨wr_36 _ (List.mem_of_getElem? (i := 8) (by decide +kernel)), wr_36 _ (List.mem_of_getElem? (i := 9) (by decide +kernel)), wr_36 _ (List.mem_of_getElem? (i := 10) (by decide +kernel)), wr_1 _ (List.mem_of_getElem? (i := 2) (by decide +kernel)), wr_36 _ (List.mem_of_getElem? (i := 11) (by decide +kernel)), ⟨by decide +kernel, by decide +kernel⟩, by decide +kernel⟩
theorem cv_X6_234 : sj_V RX6 234 mX4_mostAlike 1 := ⟨wr_39 _ (List.mem_of_getElem? (i := 3) (by decide +kernel)), wr_39 _ (List.mem_of_getElem? (i := 4) (by decide +kernel)), wr_39 _ (List.mem_of_getElem? (i := 5) (by decide +kernel)), wr_1 _ (List.mem_of_getElem? (i := 19) (by decide +kernel)), wr_39 _ (List.mem_of_getElem? (i := 6) (by decide +kernel)), ⟨by decide +kernel, by decide +kernel⟩, by decide +kernel⟩
theorem cv_X6_237 : sj_V RX6 237 mX4_neededTolerance 3 := ⟨wr_39 _ (List.mem_of_getElem? (i := 22) (by decide +kernel)), wr_39 _ (List.mem_of_getElem? (i := 23) (by decide +kernel)), wr_40 _ (List.mem_of_getElem? (i := 0) (by decide +kernel)), wr_1 _ (List.mem_of_getElem? (i := 19) (by decide +kernel)), wr_40 _ (List.mem_of_getElem? (i := 1) (by decide +kernel)), ⟨by decide +kernel, by decide +kernel⟩, by decide +kernel⟩
theorem cv_X6_240 : sj_V RX6 240 mX4_likeness 3 := ⟨wr_40 _ (List.mem_of_getElem? (i := 17) (by decide +kernel)), wr_19 _ (List.mem_of_getElem? (i := 8) (by decide +kernel)), wr_19 _ (List.mem_of_getElem? (i := 9) (by decide +kernel)), wr_1 _ (List.mem_of_getElem? (i := 19) (by decide +kernel)), wr_19 _ (List.mem_of_getElem? (i := 10) (by decide +kernel)), ⟨by decide +kernel, by decide +kernel⟩, by decide +kernel⟩
theorem cv_X6_243 : sj_V RX6 243 mX4_shareOfHands 0 := ⟨wr_41 _ (List.mem_of_getElem? (i := 14) (by decide +kernel)), wr_41 _ (List.mem_of_getElem? (i := 15) (by decide +kernel)), wr_41 _ (List.mem_of_getElem? (i := 16) (by decide +kernel)), wr_1 _ (List.mem_of_getElem? (i := 19) (by decide +kernel)), wr_41 _ (List.mem_of_getElem? (i := 17) (by decide +kernel)), ⟨by decide +kernel, by decide +kernel⟩, by decide +kernel⟩
theorem cv_X6_249 : sj_Vs RX6 249 mX6_mix 2 := ⟨wr_42 _ (List.mem_of_getElem? (i := 7) (by decide +kernel)), wr_42 _ (List.mem_of_getElem? (i := 8) (by decide +kernel)), wr_1 _ (List.mem_of_getElem? (i := 2) (by decide +kernel)), wr_42 _ (List.mem_of_getElem? (i := 9) (by decide +kernel)), ⟨by decide +kernel, by decide +kernel⟩, by decide +kernel⟩
theorem cv_X6_253 : sj_V RX6 253 mX6_mixSheet 2 := ⟨wr_42 _ (List.mem_of_getElem? (i := 11) (by decide +kernel)), wr_42 _ (List.mem_of_getElem? (i := 12) (by decide +kernel)), wr_42 _ (List.mem_of_getElem? (i := 13) (by decide +kernel)), wr_1 _ (List.mem_of_getElem? (i := 2) (by decide +kernel)), wr_42 _ (List.mem_of_getElem? (i := 14) (by decide +kernel)), ⟨by decide +kernel, by decide +kernel⟩, by decide +kernel⟩
theorem cv_X6_257 : sj_V RX6 257 mX6_mixPair 3 := ⟨wr_42 _ (List.mem_of_getElem? (i := 21) (by decide +kernel)), wr_42 _ (List.mem_of_getElem? (i := 22) (by decide +kernel)), wr_42 _ (List.mem_of_getElem? (i := 23) (by decide +kernel)), wr_1 _ (List.mem_of_getElem? (i := 2) (by decide +kernel)), wr_43 _ (List.mem_of_getElem? (i := 0) (by decide +kernel)), ⟨by decide +kernel, by decide +kernel⟩, by decide +kernel⟩
theorem cv_X6_261 : sj_Vs RX6 261 mX6_bitsOf 1 := ⟨wr_43 _ (List.mem_of_getElem? (i := 1) (by decide +kernel)), wr_43 _ (List.mem_of_getElem? (i := 2) (by decide +kernel)), wr_1 _ (List.mem_of_getElem? (i := 2) (by decide +kernel)), wr_43 _ (List.mem_of_getElem? (i := 3) (by decide +kernel)), ⟨by decide +kernel, by decide +kernel⟩, by decide +kernel⟩
theorem cv_X6_265 : sj_V RX6 265 mX5_mixInto 1 := ⟨wr_43 _ (List.mem_of_getElem? (i := 7) (by decide +kernel)), wr_43 _ (List.mem_of_getElem? (i := 8) (by decide +kernel)), wr_43 _ (List.mem_of_getElem? (i := 9) (by decide +kernel)), wr_1 _ (List.mem_of_getElem? (i := 15) (by decide +kernel)), wr_43 _ (List.mem_of_getElem? (i := 10) (by decide +kernel)), ⟨by decide +kernel, by decide +kernel⟩, by decide +kernel⟩
theorem cv_X6_278 : sj_V RX6 278 mX6_swearPart 3 := ⟨wr_28 _ (List.mem_of_getElem? (i := 4) (by decide +kernel)), wr_28 _ (List.mem_of_getElem? (i := 5) (by decide +kernel)), wr_28 _ (List.mem_of_getElem? (i := 6) (by decide +kernel)), wr_1 _ (List.mem_of_getElem? (i := 2) (by decide +kernel)), wr_28 _ (List.mem_of_getElem? (i := 7) (by decide +kernel)), ⟨by decide +kernel, by decide +kernel⟩, by decide +kernel⟩
theorem cv_X6_281 : sj_V RX6 281 mX4_numberOfAll 1 := ⟨wr_36 _ (List.mem_of_getElem? (i := 12) (by decide +kernel)), wr_36 _ (List.mem_of_getElem? (i := 13) (by decide +kernel)), wr_36 _ (List.mem_of_getElem? (i := 14) (by decide +kernel)), wr_1 _ (List.mem_of_getElem? (i := 19) (by decide +kernel)), wr_36 _ (List.mem_of_getElem? (i := 15) (by decide +kernel)), ⟨by decide +kernel, by decide +kernel⟩, by decide +kernel⟩
theorem cv_X6_284 : sj_V RX6 284 mX3_mixInto 1 := ⟨wr_42 _ (List.mem_of_getElem? (i := 15) (by decide +kernel)), wr_42 _ (List.mem_of_getElem? (i := 16) (by decide +kernel)), wr_42 _ (List.mem_of_getElem? (i := 17) (by decide +kernel)), wr_3 _ (List.mem_of_getElem? (i := 2) (by decide +kernel)), wr_42 _ (List.mem_of_getElem? (i := 18) (by decide +kernel)), ⟨by decide +kernel, by decide +kernel⟩, by decide +kernel⟩
theorem cv_X7_35 : sj_Vs RX7 35 mX7_within 3 := ⟨wr_12 _ (List.mem_of_getElem? (i := 21) (by decide +kernel)), wr_12 _ (List.mem_of_getElem? (i := 22) (by decide +kernel)), wr_1 _ (List.mem_of_getElem? (i := 5) (by decide +kernel)), wr_12 _ (List.mem_of_getElem? (i := 23) (by decide +kernel)), ⟨by decide +kernel, by decide +kernel⟩, by decide +kernel⟩
theorem cv_X7_39 : sj_V RX7 39 mX7_of 2 := ⟨wr_16 _ (List.mem_of_getElem? (i := 22) (by decide +kernel)), wr_16 _ (List.mem_of_getElem? (i := 23) (by decide +kernel)), wr_17 _ (List.mem_of_getElem? (i := 0) (by decide +kernel)), wr_1 _ (List.mem_of_getElem? (i := 5) (by decide +kernel)), wr_17 _ (List.mem_of_getElem? (i := 1) (by decide +kernel)), ⟨by decide +kernel, by decide +kernel⟩, by decide +kernel⟩
theorem cv_X7_46 : sj_V RX7 46 mX7_fails 1 := ⟨wr_13 _ (List.mem_of_getElem? (i := 0) (by decide +kernel)), wr_13 _ (List.mem_of_getElem? (i := 1) (by decide +kernel)), wr_13 _ (List.mem_of_getElem? (i := 2) (by decide +kernel)), wr_1 _ (List.mem_of_getElem? (i := 5) (by decide +kernel)), wr_13 _ (List.mem_of_getElem? (i := 3) (by decide +kernel)), ⟨by decide +kernel, by decide +kernel⟩, by decide +kernel⟩
theorem cv_X7_54 : sj_V RX7 54 mX7_save 0 := ⟨wr_13 _ (List.mem_of_getElem? (i := 4) (by decide +kernel)), wr_13 _ (List.mem_of_getElem? (i := 5) (by decide +kernel)), wr_13 _ (List.mem_of_getElem? (i := 6) (by decide +kernel)), wr_1 _ (List.mem_of_getElem? (i := 5) (by decide +kernel)), wr_13 _ (List.mem_of_getElem? (i := 7) (by decide +kernel)), ⟨by decide +kernel, by decide +kernel⟩, by decide +kernel⟩
theorem cv_X7_57 : sj_V RX7 57 mX7_ofStroke 3 := ⟨wr_22 _ (List.mem_of_getElem? (i := 6) (by decide +kernel)), wr_22 _ (List.mem_of_getElem? (i := 7) (by decide +kernel)), wr_22 _ (List.mem_of_getElem? (i := 8) (by decide +kernel)), wr_1 _ (List.mem_of_getElem? (i := 5) (by decide +kernel)), wr_22 _ (List.mem_of_getElem? (i := 9) (by decide +kernel)), ⟨by decide +kernel, by decide +kernel⟩, by decide +kernel⟩
theorem cv_X7_61 : sj_V RX7 61 mX7_sumOf 2 := ⟨wr_22 _ (List.mem_of_getElem? (i := 2) (by decide +kernel)), wr_22 _ (List.mem_of_getElem? (i := 3) (by decide +kernel)), wr_22 _ (List.mem_of_getElem? (i := 4) (by decide +kernel)), wr_1 _ (List.mem_of_getElem? (i := 5) (by decide +kernel)), wr_22 _ (List.mem_of_getElem? (i := 5) (by decide +kernel)), ⟨by decide +kernel, by decide +kernel⟩, by decide +kernel⟩
theorem cv_X7_64 : sj_Vs RX7 64 mX7_sizeOf 1 := ⟨wr_24 _ (List.mem_of_getElem? (i := 1) (by decide +kernel)), wr_24 _ (List.mem_of_getElem? (i := 2) (by decide +kernel)), wr_1 _ (List.mem_of_getElem? (i := 5) (by decide +kernel)), wr_24 _ (List.mem_of_getElem? (i := 3) (by decide +kernel)), ⟨by decide +kernel, by decide +kernel⟩, by decide +kernel⟩
theorem cv_X7_67 : sj_Vs RX7 67 mX7_divided 2 := ⟨wr_23 _ (List.mem_of_getElem? (i := 10) (by decide +kernel)), wr_23 _ (List.mem_of_getElem? (i := 11) (by decide +kernel)), wr_1 _ (List.mem_of_getElem? (i := 5) (by decide +kernel)), wr_23 _ (List.mem_of_getElem? (i := 12) (by decide +kernel)), ⟨by decide +kernel, by decide +kernel⟩, by decide +kernel⟩
theorem cv_X7_70 : sj_V RX7 70 mX7_spread 1 := ⟨wr_23 _ (List.mem_of_getElem? (i := 13) (by decide +kernel)), wr_23 _ (List.mem_of_getElem? (i := 14) (by decide +kernel)), wr_23 _ (List.mem_of_getElem? (i := 15) (by decide +kernel)), wr_1 _ (List.mem_of_getElem? (i := 5) (by decide +kernel)), wr_23 _ (List.mem_of_getElem? (i := 16) (by decide +kernel)), ⟨by decide +kernel, by decide +kernel⟩, by decide +kernel⟩
theorem cv_X7_73 : sj_V RX7 73 mX7_loopHeight 1 := ⟨wr_23 _ (List.mem_of_getElem? (i := 17) (by decide +kernel)), wr_23 _ (List.mem_of_getElem? (i := 18) (by decide +kernel)), wr_23 _ (List.mem_of_getElem? (i := 19) (by decide +kernel)), wr_1 _ (List.mem_of_getElem? (i := 5) (by decide +kernel)), wr_23 _ (List.mem_of_getElem? (i := 20) (by decide +kernel)), ⟨by decide +kernel, by decide +kernel⟩, by decide +kernel⟩
theorem cv_X7_76 : sj_V RX7 76 mX7_unrest 1 := ⟨wr_23 _ (List.mem_of_getElem? (i := 21) (by decide +kernel)), wr_23 _ (List.mem_of_getElem? (i := 22) (by decide +kernel)), wr_23 _ (List.mem_of_getElem? (i := 23) (by decide +kernel)), wr_1 _ (List.mem_of_getElem? (i := 5) (by decide +kernel)), wr_24 _ (List.mem_of_getElem? (i := 0) (by decide +kernel)), ⟨by decide +kernel, by decide +kernel⟩, by decide +kernel⟩
theorem cv_X7_79 : sj_V RX7 79 mX7_hasFaded 1 := ⟨wr_22 _ (List.mem_of_getElem? (i := 22) (by decide +kernel)), wr_22 _ (List.mem_of_getElem? (i := 23) (by decide +kernel)), wr_23 _ (List.mem_of_getElem? (i := 0) (by decide +kernel)), wr_1 _ (List.mem_of_getElem? (i := 5) (by decide +kernel)), wr_23 _ (List.mem_of_getElem? (i := 1) (by decide +kernel)), ⟨by decide +kernel, by decide +kernel⟩, by decide +kernel⟩
theorem cv_X7_83 : sj_V RX7 83 mX7_markOf 2 := ⟨wr_23 _ (List.mem_of_getElem? (i := 6) (by decide +kernel)), wr_23 _ (List.mem_of_getElem? (i := 7) (by decide +kernel)), wr_23 _ (List.mem_of_getElem? (i := 8) (by decide +kernel)), wr_1 _ (List.mem_of_getElem? (i := 5) (by decide +kernel)), wr_23 _ (List.mem_of_getElem? (i := 9) (by decide +kernel)), ⟨by decide +kernel, by decide +kernel⟩, by decide +kernel⟩
theorem cv_X7_86 : sj_V RX7 86 mX7_isGone 3 := ⟨wr_22 _ (List.mem_of_getElem? (i := 18) (by decide +kernel)), wr_22 _ (List.mem_of_getElem? (i := 19) (by decide +kernel)), wr_22 _ (List.mem_of_getElem? (i := 20) (by decide +kernel)), wr_1 _ (List.mem_of_getElem? (i := 5) (by decide +kernel)), wr_22 _ (List.mem_of_getElem? (i := 21) (by decide +kernel)), ⟨by decide +kernel, by decide +kernel⟩, by decide +kernel⟩
theorem cv_X7_89 : sj_V RX7 89 mX7_differ 3 := ⟨wr_23 _ (List.mem_of_getElem? (i := 2) (by decide +kernel)), wr_23 _ (List.mem_of_getElem? (i := 3) (by decide +kernel)), wr_23 _ (List.mem_of_getElem? (i := 4) (by decide +kernel)), wr_1 _ (List.mem_of_getElem? (i := 5) (by decide +kernel)), wr_23 _ (List.mem_of_getElem? (i := 5) (by decide +kernel)), ⟨by decide +kernel, by decide +kernel⟩, by decide +kernel⟩
theorem cv_X7_92 : sj_V RX7 92 mX7_agreeing 2 := ⟨wr_22 _ (List.mem_of_getElem? (i := 14) (by decide +kernel)), wr_22 _ (List.mem_of_getElem? (i := 15) (by decide +kernel)), wr_22 _ (List.mem_of_getElem? (i := 16) (by decide +kernel)), wr_1 _ (List.mem_of_getElem? (i := 5) (by decide +kernel)), wr_22 _ (List.mem_of_getElem? (i := 17) (by decide +kernel)), ⟨by decide +kernel, by decide +kernel⟩, by decide +kernel⟩
theorem cv_X7_95 : sj_Vs RX7 95 mX7_ones 1 := ⟨wr_24 _ (List.mem_of_getElem? (i := 4) (by decide +kernel)), wr_24 _ (List.mem_of_getElem? (i := 5) (by decide +kernel)), wr_1 _ (List.mem_of_getElem? (i := 5) (by decide +kernel)), wr_24 _ (List.mem_of_getElem? (i := 6) (by decide +kernel)), ⟨by decide +kernel, by decide +kernel⟩, by decide +kernel⟩
theorem cv_X7_98 : sj_V RX7 98 mX7_ofOath 2 := ⟨wr_15 _ (List.mem_of_getElem? (i := 16) (by decide +kernel)), wr_15 _ (List.mem_of_getElem? (i := 17) (by decide +kernel)), wr_15 _ (List.mem_of_getElem? (i := 18) (by decide +kernel)), wr_1 _ (List.mem_of_getElem? (i := 5) (by decide +kernel)), wr_15 _ (List.mem_of_getElem? (i := 19) (by decide +kernel)), ⟨by decide +kernel, by decide +kernel⟩, by decide +kernel⟩
theorem cv_X7_101 : sj_V RX7 101 mX7_join 2 := ⟨wr_21 _ (List.mem_of_getElem? (i := 18) (by decide +kernel)), wr_21 _ (List.mem_of_getElem? (i := 19) (by decide +kernel)), wr_21 _ (List.mem_of_getElem? (i := 20) (by decide +kernel)), wr_1 _ (List.mem_of_getElem? (i := 5) (by decide +kernel)), wr_21 _ (List.mem_of_getElem? (i := 21) (by decide +kernel)), ⟨by decide +kernel, by decide +kernel⟩, by decide +kernel⟩
theorem cv_X7_105 : sj_V RX7 105 mX7_layHands 1 := ⟨wr_21 _ (List.mem_of_getElem? (i := 14) (by decide +kernel)), wr_21 _ (List.mem_of_getElem? (i := 15) (by decide +kernel)), wr_21 _ (List.mem_of_getElem? (i := 16) (by decide +kernel)), wr_1 _ (List.mem_of_getElem? (i := 5) (by decide +kernel)), wr_21 _ (List.mem_of_getElem? (i := 17) (by decide +kernel)), ⟨by decide +kernel, by decide +kernel⟩, by decide +kernel⟩
theorem cv_X7_109 : sj_V RX7 109 mX7_findOath 2 := ⟨wr_21 _ (List.mem_of_getElem? (i := 6) (by decide +kernel)), wr_21 _ (List.mem_of_getElem? (i := 7) (by decide +kernel)), wr_21 _ (List.mem_of_getElem? (i := 8) (by decide +kernel)), wr_1 _ (List.mem_of_getElem? (i := 5) (by decide +kernel)), wr_21 _ (List.mem_of_getElem? (i := 9) (by decide +kernel)), ⟨by decide +kernel, by decide +kernel⟩, by decide +kernel⟩
theorem cv_X7_112 : sj_V RX7 112 mX7_areOfOne 2 := ⟨wr_21 _ (List.mem_of_getElem? (i := 10) (by decide +kernel)), wr_21 _ (List.mem_of_getElem? (i := 11) (by decide +kernel)), wr_21 _ (List.mem_of_getElem? (i := 12) (by decide +kernel)), wr_1 _ (List.mem_of_getElem? (i := 5) (by decide +kernel)), wr_21 _ (List.mem_of_getElem? (i := 13) (by decide +kernel)), ⟨by decide +kernel, by decide +kernel⟩, by decide +kernel⟩
theorem cv_X7_116 : sj_V RX7 116 mX7_trembles 1 := ⟨wr_21 _ (List.mem_of_getElem? (i := 22) (by decide +kernel)), wr_21 _ (List.mem_of_getElem? (i := 23) (by decide +kernel)), wr_22 _ (List.mem_of_getElem? (i := 0) (by decide +kernel)), wr_1 _ (List.mem_of_getElem? (i := 5) (by decide +kernel)), wr_22 _ (List.mem_of_getElem? (i := 1) (by decide +kernel)), ⟨by decide +kernel, by decide +kernel⟩, by decide +kernel⟩
theorem cv_X7_119 : sj_V RX7 119 mX7_likeness 2 := ⟨wr_22 _ (List.mem_of_getElem? (i := 10) (by decide +kernel)), wr_22 _ (List.mem_of_getElem? (i := 11) (by decide +kernel)), wr_22 _ (List.mem_of_getElem? (i := 12) (by decide +kernel)), wr_1 _ (List.mem_of_getElem? (i := 5) (by decide +kernel)), wr_22 _ (List.mem_of_getElem? (i := 13) (by decide +kernel)), ⟨by decide +kernel, by decide +kernel⟩, by decide +kernel⟩
theorem cv_X7_122 : sj_V RX7 122 mX7_breaks 2 := ⟨wr_24 _ (List.mem_of_getElem? (i := 7) (by decide +kernel)), wr_24 _ (List.mem_of_getElem? (i := 8) (by decide +kernel)), wr_24 _ (List.mem_of_getElem? (i := 9) (by decide +kernel)), wr_1 _ (List.mem_of_getElem? (i := 5) (by decide +kernel)), wr_24 _ (List.mem_of_getElem? (i := 10) (by decide +kernel)), ⟨by decide +kernel, by decide +kernel⟩, by decide +kernel⟩
theorem cv_X7_125 : sj_V RX7 125 mX7_hands 0 := ⟨wr_24 _ (List.mem_of_getElem? (i := 15) (by decide +kernel)), wr_24 _ (List.mem_of_getElem? (i := 16) (by decide +kernel)), wr_24 _ (List.mem_of_getElem? (i := 17) (by decide +kernel)), wr_1 _ (List.mem_of_getElem? (i := 5) (by decide +kernel)), wr_24 _ (List.mem_of_getElem? (i := 18) (by decide +kernel)), ⟨by decide +kernel, by decide +kernel⟩, by decide +kernel⟩
theorem cv_X7_129 : sj_V RX7 129 mX7_dropOath 1 := ⟨wr_15 _ (List.mem_of_getElem? (i := 20) (by decide +kernel)), wr_15 _ (List.mem_of_getElem? (i := 21) (by decide +kernel)), wr_15 _ (List.mem_of_getElem? (i := 22) (by decide +kernel)), wr_1 _ (List.mem_of_getElem? (i := 5) (by decide +kernel)), wr_15 _ (List.mem_of_getElem? (i := 23) (by decide +kernel)), ⟨by decide +kernel, by decide +kernel⟩, by decide +kernel⟩
theorem cv_X7_132 : sj_V RX7 132 mX7_isSheetText 0 := ⟨wr_11 _ (List.mem_of_getElem? (i := 20) (by decide +kernel)), wr_11 _ (List.mem_of_getElem? (i := 21) (by decide +kernel)), wr_11 _ (List.mem_of_getElem? (i := 22) (by decide +kernel)), wr_1 _ (List.mem_of_getElem? (i := 5) (by decide +kernel)), wr_11 _ (List.mem_of_getElem? (i := 23) (by decide +kernel)), ⟨by decide +kernel, by decide +kernel⟩, by decide +kernel⟩
theorem cv_X7_142 : sj_V RX7 142 mX7_isSheet 1 := ⟨wr_15 _ (List.mem_of_getElem? (i := 8) (by decide +kernel)), wr_15 _ (List.mem_of_getElem? (i := 9) (by decide +kernel)), wr_15 _ (List.mem_of_getElem? (i := 10) (by decide +kernel)), wr_1 _ (List.mem_of_getElem? (i := 5) (by decide +kernel)), wr_15 _ (List.mem_of_getElem? (i := 11) (by decide +kernel)), ⟨by decide +kernel, by decide +kernel⟩, by decide +kernel⟩
theorem cv_X7_145 : sj_V RX7 145 mX7_drops 1 := ⟨wr_15 _ (List.mem_of_getElem? (i := 12) (by decide +kernel)), wr_15 _ (List.mem_of_getElem? (i := 13) (by decide +kernel)), wr_15 _ (List.mem_of_getElem? (i := 14) (by decide +kernel)), wr_1 _ (List.mem_of_getElem? (i := 5) (by decide +kernel)), wr_15 _ (List.mem_of_getElem? (i := 15) (by decide +kernel)), ⟨by decide +kernel, by decide +kernel⟩, by decide +kernel⟩
theorem cv_X7_148 : sj_V RX7 148 mX7_passes 1 := ⟨wr_16 _ (List.mem_of_getElem? (i := 18) (by decide +kernel)), wr_16 _ (List.mem_of_getElem? (i := 19) (by decide +kernel)), wr_16 _ (List.mem_of_getElem? (i := 20) (by decide +kernel)), wr_1 _ (List.mem_of_getElem? (i := 5) (by decide +kernel)), wr_16 _ (List.mem_of_getElem? (i := 21) (by decide +kernel)), ⟨by decide +kernel, by decide +kernel⟩, by decide +kernel⟩
theorem cv_X7_151 : sj_Vs RX7 151 mX7_mostOf 1 := ⟨wr_17 _ (List.mem_of_getElem? (i := 16) (by decide +kernel)), wr_17 _ (List.mem_of_getElem? (i := 17) (by decide +kernel)), wr_1 _ (List.mem_of_getElem? (i := 5) (by decide +kernel)), wr_17 _ (List.mem_of_getElem? (i := 18) (by decide +kernel)), ⟨by decide +kernel, by decide +kernel⟩, by decide +kernel⟩
theorem cv_X7_154 : sj_V RX7 154 mX7_whyNotSworn 3 := ⟨wr_21 _ (List.mem_of_getElem? (i := 2) (by decide +kernel)), wr_21 _ (List.mem_of_getElem? (i := 3) (by decide +kernel)), wr_21 _ (List.mem_of_getElem? (i := 4) (by decide +kernel)), wr_1 _ (List.mem_of_getElem? (i := 5) (by decide +kernel)), wr_21 _ (List.mem_of_getElem? (i := 5) (by decide +kernel)), ⟨by decide +kernel, by decide +kernel⟩, by decide +kernel⟩
theorem cv_X7_158 : sj_V RX7 158 mX7_swears 3 := ⟨wr_24 _ (List.mem_of_getElem? (i := 11) (by decide +kernel)), wr_24 _ (List.mem_of_getElem? (i := 12) (by decide +kernel)), wr_24 _ (List.mem_of_getElem? (i := 13) (by decide +kernel)), wr_1 _ (List.mem_of_getElem? (i := 5) (by decide +kernel)), wr_24 _ (List.mem_of_getElem? (i := 14) (by decide +kernel)), ⟨by decide +kernel, by decide +kernel⟩, by decide +kernel⟩
theorem cv_X7_164 : sj_V RX7 164 mX7_next 0 := ⟨wr_12 _ (List.mem_of_getElem? (i := 13) (by decide +kernel)), wr_12 _ (List.mem_of_getElem? (i := 14) (by decide +kernel)), wr_12 _ (List.mem_of_getElem? (i := 15) (by decide +kernel)), wr_1 _ (List.mem_of_getElem? (i := 5) (by decide +kernel)), wr_12 _ (List.mem_of_getElem? (i := 16) (by decide +kernel)), ⟨by decide +kernel, by decide +kernel⟩, by decide +kernel⟩
theorem cv_X7_167 : sj_V RX7 167 mX7_takes 1 := ⟨wr_12 _ (List.mem_of_getElem? (i := 9) (by decide +kernel)), wr_12 _ (List.mem_of_getElem? (i := 10) (by decide +kernel)), wr_12 _ (List.mem_of_getElem? (i := 11) (by decide +kernel)), wr_1 _ (List.mem_of_getElem? (i := 5) (by decide +kernel)), wr_12 _ (List.mem_of_getElem? (i := 12) (by decide +kernel)), ⟨by decide +kernel, by decide +kernel⟩, by decide +kernel⟩
theorem cv_X7_170 : sj_V RX7 170 mX7_readNumber 2 := ⟨wr_12 _ (List.mem_of_getElem? (i := 17) (by decide +kernel)), wr_12 _ (List.mem_of_getElem? (i := 18) (by decide +kernel)), wr_12 _ (List.mem_of_getElem? (i := 19) (by decide +kernel)), wr_1 _ (List.mem_of_getElem? (i := 5) (by decide +kernel)), wr_12 _ (List.mem_of_getElem? (i := 20) (by decide +kernel)), ⟨by decide +kernel, by decide +kernel⟩, by decide +kernel⟩
theorem cv_X7_173 : sj_V RX7 173 mX7_readsStroke 0 := ⟨wr_12 _ (List.mem_of_getElem? (i := 5) (by decide +kernel)), wr_12 _ (List.mem_of_getElem? (i := 6) (by decide +kernel)), wr_12 _ (List.mem_of_getElem? (i := 7) (by decide +kernel)), wr_1 _ (List.mem_of_getElem? (i := 5) (by decide +kernel)), wr_12 _ (List.mem_of_getElem? (i := 8) (by decide +kernel)), ⟨by decide +kernel, by decide +kernel⟩, by decide +kernel⟩
theorem cv_X7_176 : sj_V RX7 176 mX7_findSheetError 0 := ⟨wr_12 _ (List.mem_of_getElem? (i := 0) (by decide +kernel)), wr_12 _ (List.mem_of_getElem? (i := 1) (by decide +kernel)), wr_12 _ (List.mem_of_getElem? (i := 2) (by decide +kernel)), wr_1 _ (List.mem_of_getElem? (i := 5) (by decide +kernel)), wr_12 _ (List.mem_of_getElem? (i := 3) (by decide +kernel)), ⟨by decide +kernel, by decide +kernel⟩, by decide +kernel⟩
theorem cv_X7_188 : sj_V RX7 188 mX7_readsPart 0 := ⟨wr_27 _ (List.mem_of_getElem? (i := 6) (by decide +kernel)), wr_27 _ (List.mem_of_getElem? (i := 7) (by decide +kernel)), wr_27 _ (List.mem_of_getElem? (i := 8) (by decide +kernel)), wr_1 _ (List.mem_of_getElem? (i := 5) (by decide +kernel)), wr_27 _ (List.mem_of_getElem? (i := 9) (by decide +kernel)), ⟨by decide +kernel, by decide +kernel⟩, by decide +kernel⟩
theorem cv_X7_191 : sj_V RX7 191 mX7_findWorksError 0 := ⟨wr_27 _ (List.mem_of_getElem? (i := 2) (by decide +kernel)), wr_27 _ (List.mem_of_getElem? (i := 3) (by decide +kernel)), wr_27 _ (List.mem_of_getElem? (i := 4) (by decide +kernel)), wr_1 _ (List.mem_of_getElem? (i := 5) (by decide +kernel)), wr_27 _ (List.mem_of_getElem? (i := 5) (by decide +kernel)), ⟨by decide +kernel, by decide +kernel⟩, by decide +kernel⟩
theorem cv_X7_194 : sj_V RX7 194 mX7_whyNotPart 0 := ⟨wr_28 _ (List.mem_of_getElem? (i := 12) (by decide +kernel)), wr_28 _ (List.mem_of_getElem? (i := 13) (by decide +kernel)), wr_28 _ (List.mem_of_getElem? (i := 14) (by decide +kernel)), wr_1 _ (List.mem_of_getElem? (i := 5) (by decide +kernel)), wr_28 _ (List.mem_of_getElem? (i := 15) (by decide +kernel)), ⟨by decide +kernel, by decide +kernel⟩, by decide +kernel⟩
theorem cv_X7_197 : sj_V RX7 197 mX7_doPart 0 := ⟨wr_28 _ (List.mem_of_getElem? (i := 16) (by decide +kernel)), wr_28 _ (List.mem_of_getElem? (i := 17) (by decide +kernel)), wr_28 _ (List.mem_of_getElem? (i := 18) (by decide +kernel)), wr_1 _ (List.mem_of_getElem? (i := 5) (by decide +kernel)), wr_28 _ (List.mem_of_getElem? (i := 19) (by decide +kernel)), ⟨by decide +kernel, by decide +kernel⟩, by decide +kernel⟩
theorem cv_X7_200 : sj_V RX7 200 mX7_handOf 1 := ⟨wr_31 _ (List.mem_of_getElem? (i := 18) (by decide +kernel)), wr_31 _ (List.mem_of_getElem? (i := 19) (by decide +kernel)), wr_31 _ (List.mem_of_getElem? (i := 20) (by decide +kernel)), wr_1 _ (List.mem_of_getElem? (i := 5) (by decide +kernel)), wr_31 _ (List.mem_of_getElem? (i := 21) (by decide +kernel)), ⟨by decide +kernel, by decide +kernel⟩, by decide +kernel⟩
theorem cv_X7_203 : sj_V RX7 203 mX7_oathsOf 1 := ⟨wr_31 _ (List.mem_of_getElem? (i := 22) (by decide +kernel)), wr_31 _ (List.mem_of_getElem? (i := 23) (by decide +kernel)), wr_32 _ (List.mem_of_getElem? (i := 0) (by decide +kernel)), wr_1 _ (List.mem_of_getElem? (i := 5) (by decide +kernel)), wr_32 _ (List.mem_of_getElem? (i := 1) (by decide +kernel)), ⟨by decide +kernel, by decide +kernel⟩, by decide +kernel⟩
theorem cv_X7_206 : sj_V RX7 206 mX7_tellsSheet 2 := ⟨wr_31 _ (List.mem_of_getElem? (i := 14) (by decide +kernel)), wr_31 _ (List.mem_of_getElem? (i := 15) (by decide +kernel)), wr_31 _ (List.mem_of_getElem? (i := 16) (by decide +kernel)), wr_1 _ (List.mem_of_getElem? (i := 5) (by decide +kernel)), wr_31 _ (List.mem_of_getElem? (i := 17) (by decide +kernel)), ⟨by decide +kernel, by decide +kernel⟩, by decide +kernel⟩
theorem cv_X7_209 : sj_V RX7 209 mX7_tellsStroke 3 := ⟨wr_32 _ (List.mem_of_getElem? (i := 18) (by decide +kernel)), wr_32 _ (List.mem_of_getElem? (i := 19) (by decide +kernel)), wr_32 _ (List.mem_of_getElem? (i := 20) (by decide +kernel)), wr_1 _ (List.mem_of_getElem? (i := 5) (by decide +kernel)), wr_32 _ (List.mem_of_getElem? (i := 21) (by decide +kernel)), ⟨by decide +kernel, by decide +kernel⟩, by decide +kernel⟩
theorem cv_X7_212 : sj_V RX7 212 mX7_tellsOathOf 2 := ⟨wr_34 _ (List.mem_of_getElem? (i := 17) (by decide +kernel)), wr_34 _ (List.mem_of_getElem? (i := 18) (by decide +kernel)), wr_34 _ (List.mem_of_getElem? (i := 19) (by decide +kernel)), wr_1 _ (List.mem_of_getElem? (i := 5) (by decide +kernel)), wr_34 _ (List.mem_of_getElem? (i := 20) (by decide +kernel)), ⟨by decide +kernel, by decide +kernel⟩, by decide +kernel⟩
theorem cv_X7_215 : sj_V RX7 215 mX7_compares 3 := ⟨wr_34 _ (List.mem_of_getElem? (i := 13) (by decide +kernel)), wr_34 _ (List.mem_of_getElem? (i := 14) (by decide +kernel)), wr_34 _ (List.mem_of_getElem? (i := 15) (by decide +kernel)), wr_1 _ (List.mem_of_getElem? (i := 5) (by decide +kernel)), wr_34 _ (List.mem_of_getElem? (i := 16) (by decide +kernel)), ⟨by decide +kernel, by decide +kernel⟩, by decide +kernel⟩
theorem cv_X7_218 : sj_V RX7 218 mX7_holds 1 := ⟨wr_35 _ (List.mem_of_getElem? (i := 21) (by decide +kernel)), wr_35 _ (List.mem_of_getElem? (i := 22) (by decide +kernel)), wr_35 _ (List.mem_of_getElem? (i := 23) (by decide +kernel)), wr_1 _ (List.mem_of_getElem? (i := 5) (by decide +kernel)), wr_36 _ (List.mem_of_getElem? (i := 0) (by decide +kernel)), ⟨by decide +kernel, by decide +kernel⟩, by decide +kernel⟩
theorem cv_X7_221 : sj_V RX7 221 mX7_tellsOath 2 := ⟨wr_35 _ (List.mem_of_getElem? (i := 17) (by decide +kernel)), wr_35 _ (List.mem_of_getElem? (i := 18) (by decide +kernel)), wr_35 _ (List.mem_of_getElem? (i := 19) (by decide +kernel)), wr_1 _ (List.mem_of_getElem? (i := 5) (by decide +kernel)), wr_35 _ (List.mem_of_getElem? (i := 20) (by decide +kernel)), ⟨by decide +kernel, by decide +kernel⟩, by decide +kernel⟩
theorem cv_X7_224 : sj_V RX7 224 mX7_likeOaths 0 := ⟨wr_37 _ (List.mem_of_getElem? (i := 17) (by decide +kernel)), wr_37 _ (List.mem_of_getElem? (i := 18) (by decide +kernel)), wr_37 _ (List.mem_of_getElem? (i := 19) (by decide +kernel)), wr_1 _ (List.mem_of_getElem? (i := 5) (by decide +kernel)), wr_37 _ (List.mem_of_getElem? (i := 20) (by decide +kernel)), ⟨by decide +kernel, by decide +kernel⟩, by decide +kernel⟩
theorem cv_X7_227 : sj_V RX7 227 mX7_mostOfHand 0 := ⟨wr_37 _ (List.mem_of_getElem? (i := 21) (by decide +kernel)), wr_37 _ (List.mem_of_getElem? (i := 22) (by decide +kernel)), wr_37 _ (List.mem_of_getElem? (i := 23) (by decide +kernel)), wr_1 _ (List.mem_of_getElem? (i := 5) (by decide +kernel)), wr_38 _ (List.mem_of_getElem? (i := 0) (by decide +kernel)), ⟨by decide +kernel, by decide +kernel⟩, by decide +kernel⟩
theorem cv_X7_230 : sj_V RX7 230 mX7_trembling 0 := ⟨wr_38 _ (List.mem_of_getElem? (i := 1) (by decide +kernel)), wr_38 _ (List.mem_of_getElem? (i := 2) (by decide +kernel)), wr_38 _ (List.mem_of_getElem? (i := 3) (by decide +kernel)), wr_1 _ (List.mem_of_getElem? (i := 5) (by decide +kernel)), wr_38 _ (List.mem_of_getElem? (i := 4) (by decide +kernel)), ⟨by decide +kernel, by decide +kernel⟩, by decide +kernel⟩
theorem cv_X7_233 : sj_V RX7 233 mX7_likePairs 0 := ⟨wr_38 _ (List.mem_of_getElem? (i := 5) (by decide +kernel)), wr_38 _ (List.mem_of_getElem? (i := 6) (by decide +kernel)), wr_38 _ (List.mem_of_getElem? (i := 7) (by decide +kernel)), wr_1 _ (List.mem_of_getElem? (i := 5) (by decide +kernel)), wr_38 _ (List.mem_of_getElem? (i := 8) (by decide +kernel)), ⟨by decide +kernel, by decide +kernel⟩, by decide +kernel⟩
theorem cv_X7_236 : sj_V RX7 236 mX7_tellsCount 1 := ⟨wr_37 _ (List.mem_of_getElem? (i := 13) (by decide +kernel)), wr_37 _ (List.mem_of_getElem? (i := 14) (by decide +kernel)), wr_37 _ (List.mem_of_getElem? (i := 15) (by decide +kernel)), wr_1 _ (List.mem_of_getElem? (i := 5) (by decide +kernel)), wr_37 _ (List.mem_of_getElem? (i := 16) (by decide +kernel)), ⟨by decide +kernel, by decide +kernel⟩, by decide +kernel⟩
theorem cv_X7_239 : sj_V RX7 239 mX7_mostAlike 1 := ⟨wr_39 _ (List.mem_of_getElem? (i := 11) (by decide +kernel)), wr_39 _ (List.mem_of_getElem? (i := 12) (by decide +kernel)), wr_39 _ (List.mem_of_getElem? (i := 13) (by decide +kernel)), wr_1 _ (List.mem_of_getElem? (i := 5) (by decide +kernel)), wr_39 _ (List.mem_of_getElem? (i := 14) (by decide +kernel)), ⟨by decide +kernel, by decide +kernel⟩, by decide +kernel⟩
theorem cv_X7_242 : sj_V RX7 242 mX7_tolerance 3 := ⟨wr_40 _ (List.mem_of_getElem? (i := 6) (by decide +kernel)), wr_40 _ (List.mem_of_getElem? (i := 7) (by decide +kernel)), wr_40 _ (List.mem_of_getElem? (i := 8) (by decide +kernel)), wr_1 _ (List.mem_of_getElem? (i := 5) (by decide +kernel)), wr_40 _ (List.mem_of_getElem? (i := 9) (by decide +kernel)), ⟨by decide +kernel, by decide +kernel⟩, by decide +kernel⟩
theorem cv_X7_245 : sj_V RX7 245 mX7_putAside 0 := ⟨wr_41 _ (List.mem_of_getElem? (i := 2) (by decide +kernel)), wr_41 _ (List.mem_of_getElem? (i := 3) (by decide +kernel)), wr_41 _ (List.mem_of_getElem? (i := 4) (by decide +kernel)), wr_1 _ (List.mem_of_getElem? (i := 5) (by decide +kernel)), wr_41 _ (List.mem_of_getElem? (i := 5) (by decide +kernel)), ⟨by decide +kernel, by decide +kernel⟩, by decide +kernel⟩
theorem cv_X7_248 : sj_V RX7 248 mX7_takeBack 0 := ⟨wr_41 _ (List.mem_of_getElem? (i := 6) (by decide +kernel)), wr_41 _ (List.mem_of_getElem? (i := 7) (by decide +kernel)), wr_41 _ (List.mem_of_getElem? (i := 8) (by decide +kernel)), wr_1 _ (List.mem_of_getElem? (i := 5) (by decide +kernel)), wr_41 _ (List.mem_of_getElem? (i := 9) (by decide +kernel)), ⟨by decide +kernel, by decide +kernel⟩, by decide +kernel⟩
theorem cv_X7_251 : sj_V RX7 251 mX7_wouldPass 3 := ⟨wr_40 _ (List.mem_of_getElem? (i := 22) (by decide +kernel)), wr_40 _ (List.mem_of_getElem? (i := 23) (by decide +kernel)), wr_41 _ (List.mem_of_getElem? (i := 0) (by decide +kernel)), wr_1 _ (List.mem_of_getElem? (i := 5) (by decide +kernel)), wr_41 _ (List.mem_of_getElem? (i := 1) (by decide +kernel)), ⟨by decide +kernel, by decide +kernel⟩, by decide +kernel⟩
theorem cv_X7_254 : sj_V RX7 254 mX7_share 0 := ⟨wr_41 _ (List.mem_of_getElem? (i := 22) (by decide +kernel)), wr_41 _ (List.mem_of_getElem? (i := 23) (by decide +kernel)), wr_42 _ (List.mem_of_getElem? (i := 0) (by decide +kernel)), wr_1 _ (List.mem_of_getElem? (i := 5) (by decide +kernel)), wr_42 _ (List.mem_of_getElem? (i := 1) (by decide +kernel)), ⟨by decide +kernel, by decide +kernel⟩, by decide +kernel⟩
theorem cv_X7_264 : sj_V RX7 264 mX7_mix 1 := ⟨wr_43 _ (List.mem_of_getElem? (i := 17) (by decide +kernel)), wr_43 _ (List.mem_of_getElem? (i := 18) (by decide +kernel)), wr_43 _ (List.mem_of_getElem? (i := 19) (by decide +kernel)), wr_1 _ (List.mem_of_getElem? (i := 5) (by decide +kernel)), wr_43 _ (List.mem_of_getElem? (i := 20) (by decide +kernel)), ⟨by decide +kernel, by decide +kernel⟩, by decide +kernel⟩
theorem cv_X7_270 : sj_V RX7 270 mX7_mixSheet 1 := ⟨wr_43 _ (List.mem_of_getElem? (i := 22) (by decide +kernel)), wr_43 _ (List.mem_of_getElem? (i := 23) (by decide +kernel)), wr_44 _ (List.mem_of_getElem? (i := 0) (by decide +kernel)), wr_1 _ (List.mem_of_getElem? (i := 5) (by decide +kernel)), wr_44 _ (List.mem_of_getElem? (i := 1) (by decide +kernel)), ⟨by decide +kernel, by decide +kernel⟩, by decide +kernel⟩
theorem cv_X7_273 : sj_Vs RX7 273 mJxe99ae_doubleToLongBits_ccdee 1 := ⟨wr_44 _ (List.mem_of_getElem? (i := 2) (by decide +kernel)), wr_44 _ (List.mem_of_getElem? (i := 3) (by decide +kernel)), wr_44 _ (List.mem_of_getElem? (i := 4) (by decide +kernel)), wr_44 _ (List.mem_of_getElem? (i := 5) (by decide +kernel)), ⟨by decide +kernel, by decide +kernel⟩, by decide +kernel⟩
end
