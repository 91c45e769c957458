section
-- ===== PART A: goes FIRST, ahead of the names: the tables' words, and 'selects' of the private methods out of them =====
/-- a private method of a class that the tables say can be made, by its rows of tables_1 -/
def lw_okq (q : MethodName × Nat) : Prop := (q.1.cls ≠ "java/lang/invoke/MethodHandle" ∧ q.1.cls ≠ "java/lang/invoke/VarHandle") ∧ Cond.instantiable q.1.cls q.2 ∈ tables_1 ∧ Cond.privateMethod q.1 ∈ tables_1 ∧ Cond.instanceMethod q.1 ∈ tables_1
theorem lw_p0 : lw_okq (⟨"RollingBalls$Ball", "placeIndex", "(II)I"⟩, 12) := ⟨⟨by decide +kernel, by decide +kernel⟩, List.mem_of_getElem? (i := 86) (by decide +kernel), List.mem_of_getElem? (i := 142) (by decide +kernel), List.mem_of_getElem? (i := 143) (by decide +kernel)⟩
theorem lw_p1 : lw_okq (⟨"RollingBalls$Plan", "areWantedSafe", "()Z"⟩, 12) := ⟨⟨by decide +kernel, by decide +kernel⟩, List.mem_of_getElem? (i := 195) (by decide +kernel), List.mem_of_getElem? (i := 285) (by decide +kernel), List.mem_of_getElem? (i := 286) (by decide +kernel)⟩
theorem lw_p2 : lw_okq (⟨"RollingBalls$Plan", "listChoices", "()V"⟩, 12) := ⟨⟨by decide +kernel, by decide +kernel⟩, List.mem_of_getElem? (i := 195) (by decide +kernel), List.mem_of_getElem? (i := 293) (by decide +kernel), List.mem_of_getElem? (i := 294) (by decide +kernel)⟩
theorem lw_p3 : lw_okq (⟨"RollingBalls$Plan", "addChoice", "(III)V"⟩, 12) := ⟨⟨by decide +kernel, by decide +kernel⟩, List.mem_of_getElem? (i := 195) (by decide +kernel), List.mem_of_getElem? (i := 304) (by decide +kernel), List.mem_of_getElem? (i := 305) (by decide +kernel)⟩
theorem lw_p4 : lw_okq (⟨"RollingBalls$Plan", "countCandidates", "(II)I"⟩, 12) := ⟨⟨by decide +kernel, by decide +kernel⟩, List.mem_of_getElem? (i := 195) (by decide +kernel), List.mem_of_getElem? (i := 308) (by decide +kernel), List.mem_of_getElem? (i := 309) (by decide +kernel)⟩
theorem lw_p5 : lw_okq (⟨"RollingBalls$Plan", "findLowTips", "()V"⟩, 12) := ⟨⟨by decide +kernel, by decide +kernel⟩, List.mem_of_getElem? (i := 195) (by decide +kernel), List.mem_of_getElem? (i := 312) (by decide +kernel), List.mem_of_getElem? (i := 313) (by decide +kernel)⟩
theorem lw_p6 : lw_okq (⟨"RollingBalls$Plan", "isCandidate", "(I)Z"⟩, 12) := ⟨⟨by decide +kernel, by decide +kernel⟩, List.mem_of_getElem? (i := 195) (by decide +kernel), List.mem_of_getElem? (i := 320) (by decide +kernel), List.mem_of_getElem? (i := 321) (by decide +kernel)⟩
theorem lw_p7 : lw_okq (⟨"RollingBalls$Plan", "setsThatSave", "(II)I"⟩, 12) := ⟨⟨by decide +kernel, by decide +kernel⟩, List.mem_of_getElem? (i := 195) (by decide +kernel), List.mem_of_getElem? (i := 324) (by decide +kernel), List.mem_of_getElem? (i := 325) (by decide +kernel)⟩
theorem lw_p8 : lw_okq (⟨"RollingBalls$Plan", "setsThatCover", "(III)I"⟩, 12) := ⟨⟨by decide +kernel, by decide +kernel⟩, List.mem_of_getElem? (i := 195) (by decide +kernel), List.mem_of_getElem? (i := 328) (by decide +kernel), List.mem_of_getElem? (i := 329) (by decide +kernel)⟩
theorem lw_p9 : lw_okq (⟨"RollingBalls$Plan", "maySink", "(I)Z"⟩, 12) := ⟨⟨by decide +kernel, by decide +kernel⟩, List.mem_of_getElem? (i := 195) (by decide +kernel), List.mem_of_getElem? (i := 332) (by decide +kernel), List.mem_of_getElem? (i := 333) (by decide +kernel)⟩
theorem lw_p10 : lw_okq (⟨"RollingBalls$Plan", "lowRest", "(II)I"⟩, 12) := ⟨⟨by decide +kernel, by decide +kernel⟩, List.mem_of_getElem? (i := 195) (by decide +kernel), List.mem_of_getElem? (i := 336) (by decide +kernel), List.mem_of_getElem? (i := 337) (by decide +kernel)⟩
theorem lw_p11 : lw_okq (⟨"RollingBalls$Plan", "setsAbove", "(III)I"⟩, 12) := ⟨⟨by decide +kernel, by decide +kernel⟩, List.mem_of_getElem? (i := 195) (by decide +kernel), List.mem_of_getElem? (i := 344) (by decide +kernel), List.mem_of_getElem? (i := 345) (by decide +kernel)⟩
theorem lw_p12 : lw_okq (⟨"RollingBalls$Plan", "setsThatFree", "(II)I"⟩, 12) := ⟨⟨by decide +kernel, by decide +kernel⟩, List.mem_of_getElem? (i := 195) (by decide +kernel), List.mem_of_getElem? (i := 353) (by decide +kernel), List.mem_of_getElem? (i := 354) (by decide +kernel)⟩
theorem lw_p13 : lw_okq (⟨"RollingBalls$Plan", "bestOf", "(I)I"⟩, 12) := ⟨⟨by decide +kernel, by decide +kernel⟩, List.mem_of_getElem? (i := 195) (by decide +kernel), List.mem_of_getElem? (i := 357) (by decide +kernel), List.mem_of_getElem? (i := 358) (by decide +kernel)⟩
theorem lw_p14 : lw_okq (⟨"RollingBalls$Plan", "isBetter", "(II)Z"⟩, 12) := ⟨⟨by decide +kernel, by decide +kernel⟩, List.mem_of_getElem? (i := 195) (by decide +kernel), List.mem_of_getElem? (i := 364) (by decide +kernel), List.mem_of_getElem? (i := 365) (by decide +kernel)⟩
theorem lw_p15 : lw_okq (⟨"RollingBalls$Plan", "lengthOf", "(I)I"⟩, 12) := ⟨⟨by decide +kernel, by decide +kernel⟩, List.mem_of_getElem? (i := 195) (by decide +kernel), List.mem_of_getElem? (i := 374) (by decide +kernel), List.mem_of_getElem? (i := 375) (by decide +kernel)⟩
def lw_privs_1 : List (MethodName × Nat) := [(⟨"RollingBalls$Ball", "placeIndex", "(II)I"⟩, 12), (⟨"RollingBalls$Plan", "areWantedSafe", "()Z"⟩, 12), (⟨"RollingBalls$Plan", "listChoices", "()V"⟩, 12), (⟨"RollingBalls$Plan", "addChoice", "(III)V"⟩, 12), (⟨"RollingBalls$Plan", "countCandidates", "(II)I"⟩, 12), (⟨"RollingBalls$Plan", "findLowTips", "()V"⟩, 12), (⟨"RollingBalls$Plan", "isCandidate", "(I)Z"⟩, 12), (⟨"RollingBalls$Plan", "setsThatSave", "(II)I"⟩, 12), (⟨"RollingBalls$Plan", "setsThatCover", "(III)I"⟩, 12), (⟨"RollingBalls$Plan", "maySink", "(I)Z"⟩, 12), (⟨"RollingBalls$Plan", "lowRest", "(II)I"⟩, 12), (⟨"RollingBalls$Plan", "setsAbove", "(III)I"⟩, 12), (⟨"RollingBalls$Plan", "setsThatFree", "(II)I"⟩, 12), (⟨"RollingBalls$Plan", "bestOf", "(I)I"⟩, 12), (⟨"RollingBalls$Plan", "isBetter", "(II)Z"⟩, 12), (⟨"RollingBalls$Plan", "lengthOf", "(I)I"⟩, 12)]
theorem lw_r1 : ∀ q ∈ lw_privs_1, lw_okq q := List.forall_mem_cons.mpr ⟨lw_p0, List.forall_mem_cons.mpr ⟨lw_p1, List.forall_mem_cons.mpr ⟨lw_p2, List.forall_mem_cons.mpr ⟨lw_p3, List.forall_mem_cons.mpr ⟨lw_p4, List.forall_mem_cons.mpr ⟨lw_p5, List.forall_mem_cons.mpr ⟨lw_p6, List.forall_mem_cons.mpr ⟨lw_p7, List.forall_mem_cons.mpr ⟨lw_p8, List.forall_mem_cons.mpr ⟨lw_p9, List.forall_mem_cons.mpr ⟨lw_p10, List.forall_mem_cons.mpr ⟨lw_p11, List.forall_mem_cons.mpr ⟨lw_p12, List.forall_mem_cons.mpr ⟨lw_p13, List.forall_mem_cons.mpr ⟨lw_p14, List.forall_mem_cons.mpr ⟨lw_p15, fun _ h => absurd h List.not_mem_nil⟩⟩⟩⟩⟩⟩⟩⟩⟩⟩⟩⟩⟩⟩⟩⟩
theorem lw_p16 : lw_okq (⟨"RollingBalls$Plan", "setsBetterThan", "(II)I"⟩, 12) := ⟨⟨by decide +kernel, by decide +kernel⟩, List.mem_of_getElem? (i := 195) (by decide +kernel), List.mem_of_getElem? (i := 378) (by decide +kernel), List.mem_of_getElem? (i := 379) (by decide +kernel)⟩
theorem lw_p17 : lw_okq (⟨"RollingBalls$Plan", "setsThatMayLower", "(II)I"⟩, 12) := ⟨⟨by decide +kernel, by decide +kernel⟩, List.mem_of_getElem? (i := 195) (by decide +kernel), List.mem_of_getElem? (i := 382) (by decide +kernel), List.mem_of_getElem? (i := 383) (by decide +kernel)⟩
theorem lw_p18 : lw_okq (⟨"RollingBalls$Plan", "isWantedListed", "()Z"⟩, 12) := ⟨⟨by decide +kernel, by decide +kernel⟩, List.mem_of_getElem? (i := 195) (by decide +kernel), List.mem_of_getElem? (i := 386) (by decide +kernel), List.mem_of_getElem? (i := 387) (by decide +kernel)⟩
theorem lw_p19 : lw_okq (⟨"RollingBalls", "putRod", "(II)V"⟩, 7) := ⟨⟨by decide +kernel, by decide +kernel⟩, List.mem_of_getElem? (i := 18) (by decide +kernel), List.mem_of_getElem? (i := 396) (by decide +kernel), List.mem_of_getElem? (i := 397) (by decide +kernel)⟩
theorem lw_p20 : lw_okq (⟨"RollingBalls$Ball", "raiseTip", "(II)V"⟩, 12) := ⟨⟨by decide +kernel, by decide +kernel⟩, List.mem_of_getElem? (i := 86) (by decide +kernel), List.mem_of_getElem? (i := 405) (by decide +kernel), List.mem_of_getElem? (i := 406) (by decide +kernel)⟩
theorem lw_p21 : lw_okq (⟨"RollingBalls$Ball", "leave", "(III)V"⟩, 12) := ⟨⟨by decide +kernel, by decide +kernel⟩, List.mem_of_getElem? (i := 86) (by decide +kernel), List.mem_of_getElem? (i := 409) (by decide +kernel), List.mem_of_getElem? (i := 410) (by decide +kernel)⟩
theorem lw_p22 : lw_okq (⟨"RollingBalls$Ball", "countListed", "(I)V"⟩, 12) := ⟨⟨by decide +kernel, by decide +kernel⟩, List.mem_of_getElem? (i := 86) (by decide +kernel), List.mem_of_getElem? (i := 414) (by decide +kernel), List.mem_of_getElem? (i := 415) (by decide +kernel)⟩
theorem lw_p23 : lw_okq (⟨"RollingBalls$Ball", "lowerTip", "(II)V"⟩, 12) := ⟨⟨by decide +kernel, by decide +kernel⟩, List.mem_of_getElem? (i := 86) (by decide +kernel), List.mem_of_getElem? (i := 423) (by decide +kernel), List.mem_of_getElem? (i := 424) (by decide +kernel)⟩
theorem lw_p24 : lw_okq (⟨"RollingBalls$Ball", "settle", "(III)V"⟩, 12) := ⟨⟨by decide +kernel, by decide +kernel⟩, List.mem_of_getElem? (i := 86) (by decide +kernel), List.mem_of_getElem? (i := 427) (by decide +kernel), List.mem_of_getElem? (i := 428) (by decide +kernel)⟩
theorem lw_p25 : lw_okq (⟨"RollingBalls", "pointAt", "(II)I"⟩, 7) := ⟨⟨by decide +kernel, by decide +kernel⟩, List.mem_of_getElem? (i := 18) (by decide +kernel), List.mem_of_getElem? (i := 442) (by decide +kernel), List.mem_of_getElem? (i := 443) (by decide +kernel)⟩
theorem lw_p26 : lw_okq (⟨"java/lang/Throwable", "fillInStackTrace", "(I)Ljava/lang/Throwable;"⟩, 6) := ⟨⟨by decide +kernel, by decide +kernel⟩, List.mem_of_getElem? (i := 486) (by decide +kernel), List.mem_of_getElem? (i := 484) (by decide +kernel), List.mem_of_getElem? (i := 485) (by decide +kernel)⟩
theorem lw_p27 : lw_okq (⟨"RollingBalls", "needPlace", "(II)V"⟩, 7) := ⟨⟨by decide +kernel, by decide +kernel⟩, List.mem_of_getElem? (i := 18) (by decide +kernel), List.mem_of_getElem? (i := 530) (by decide +kernel), List.mem_of_getElem? (i := 531) (by decide +kernel)⟩
theorem lw_p28 : lw_okq (⟨"RollingBalls", "numberOf", "(I)I"⟩, 7) := ⟨⟨by decide +kernel, by decide +kernel⟩, List.mem_of_getElem? (i := 18) (by decide +kernel), List.mem_of_getElem? (i := 567) (by decide +kernel), List.mem_of_getElem? (i := 568) (by decide +kernel)⟩
theorem lw_p29 : lw_okq (⟨"RollingBallsModel", "isPoint", "(II)Z"⟩, 15) := ⟨⟨by decide +kernel, by decide +kernel⟩, List.mem_of_getElem? (i := 646) (by decide +kernel), List.mem_of_getElem? (i := 709) (by decide +kernel), List.mem_of_getElem? (i := 710) (by decide +kernel)⟩
theorem lw_p30 : lw_okq (⟨"RollingBallsModel", "isPlace", "(II)Z"⟩, 15) := ⟨⟨by decide +kernel, by decide +kernel⟩, List.mem_of_getElem? (i := 646) (by decide +kernel), List.mem_of_getElem? (i := 727) (by decide +kernel), List.mem_of_getElem? (i := 728) (by decide +kernel)⟩
theorem lw_p31 : lw_okq (⟨"RollingBallsModel", "stand", "()V"⟩, 15) := ⟨⟨by decide +kernel, by decide +kernel⟩, List.mem_of_getElem? (i := 646) (by decide +kernel), List.mem_of_getElem? (i := 731) (by decide +kernel), List.mem_of_getElem? (i := 732) (by decide +kernel)⟩
def lw_privs_2 : List (MethodName × Nat) := [(⟨"RollingBalls$Plan", "setsBetterThan", "(II)I"⟩, 12), (⟨"RollingBalls$Plan", "setsThatMayLower", "(II)I"⟩, 12), (⟨"RollingBalls$Plan", "isWantedListed", "()Z"⟩, 12), (⟨"RollingBalls", "putRod", "(II)V"⟩, 7), (⟨"RollingBalls$Ball", "raiseTip", "(II)V"⟩, 12), (⟨"RollingBalls$Ball", "leave", "(III)V"⟩, 12), (⟨"RollingBalls$Ball", "countListed", "(I)V"⟩, 12), (⟨"RollingBalls$Ball", "lowerTip", "(II)V"⟩, 12), (⟨"RollingBalls$Ball", "settle", "(III)V"⟩, 12), (⟨"RollingBalls", "pointAt", "(II)I"⟩, 7), (⟨"java/lang/Throwable", "fillInStackTrace", "(I)Ljava/lang/Throwable;"⟩, 6), (⟨"RollingBalls", "needPlace", "(II)V"⟩, 7), (⟨"RollingBalls", "numberOf", "(I)I"⟩, 7), (⟨"RollingBallsModel", "isPoint", "(II)Z"⟩, 15), (⟨"RollingBallsModel", "isPlace", "(II)Z"⟩, 15), (⟨"RollingBallsModel", "stand", "()V"⟩, 15)]
theorem lw_r2 : ∀ q ∈ lw_privs_2, lw_okq q := List.forall_mem_cons.mpr ⟨lw_p16, List.forall_mem_cons.mpr ⟨lw_p17, List.forall_mem_cons.mpr ⟨lw_p18, List.forall_mem_cons.mpr ⟨lw_p19, List.forall_mem_cons.mpr ⟨lw_p20, List.forall_mem_cons.mpr ⟨lw_p21, List.forall_mem_cons.mpr ⟨lw_p22, List.forall_mem_cons.mpr ⟨lw_p23, List.forall_mem_cons.mpr ⟨lw_p24, List.forall_mem_cons.mpr ⟨lw_p25, List.forall_mem_cons.mpr ⟨lw_p26, List.forall_mem_cons.mpr ⟨lw_p27, List.forall_mem_cons.mpr ⟨lw_p28, List.forall_mem_cons.mpr ⟨lw_p29, List.forall_mem_cons.mpr ⟨lw_p30, List.forall_mem_cons.mpr ⟨lw_p31, fun _ h => absurd h List.not_mem_nil⟩⟩⟩⟩⟩⟩⟩⟩⟩⟩⟩⟩⟩⟩⟩⟩
theorem lw_p32 : lw_okq (⟨"RollingBallsModel", "restAt", "(II)V"⟩, 15) := ⟨⟨by decide +kernel, by decide +kernel⟩, List.mem_of_getElem? (i := 646) (by decide +kernel), List.mem_of_getElem? (i := 735) (by decide +kernel), List.mem_of_getElem? (i := 736) (by decide +kernel)⟩
theorem lw_p33 : lw_okq (⟨"RollingBallsModel", "placeAt", "(II)I"⟩, 15) := ⟨⟨by decide +kernel, by decide +kernel⟩, List.mem_of_getElem? (i := 646) (by decide +kernel), List.mem_of_getElem? (i := 739) (by decide +kernel), List.mem_of_getElem? (i := 740) (by decide +kernel)⟩
theorem lw_p34 : lw_okq (⟨"RollingBallsModel", "across", "()I"⟩, 15) := ⟨⟨by decide +kernel, by decide +kernel⟩, List.mem_of_getElem? (i := 646) (by decide +kernel), List.mem_of_getElem? (i := 743) (by decide +kernel), List.mem_of_getElem? (i := 744) (by decide +kernel)⟩
theorem lw_p35 : lw_okq (⟨"RollingBallsModel", "isNear", "(III)Z"⟩, 15) := ⟨⟨by decide +kernel, by decide +kernel⟩, List.mem_of_getElem? (i := 646) (by decide +kernel), List.mem_of_getElem? (i := 747) (by decide +kernel), List.mem_of_getElem? (i := 748) (by decide +kernel)⟩
theorem lw_p36 : lw_okq (⟨"RollingBallsModel", "distance", "(III)I"⟩, 15) := ⟨⟨by decide +kernel, by decide +kernel⟩, List.mem_of_getElem? (i := 646) (by decide +kernel), List.mem_of_getElem? (i := 751) (by decide +kernel), List.mem_of_getElem? (i := 752) (by decide +kernel)⟩
theorem lw_p37 : lw_okq (⟨"RollingBallsModel", "isTouched", "(III)Z"⟩, 15) := ⟨⟨by decide +kernel, by decide +kernel⟩, List.mem_of_getElem? (i := 646) (by decide +kernel), List.mem_of_getElem? (i := 761) (by decide +kernel), List.mem_of_getElem? (i := 762) (by decide +kernel)⟩
theorem lw_p38 : lw_okq (⟨"RollingBallsModel", "roll", "()V"⟩, 15) := ⟨⟨by decide +kernel, by decide +kernel⟩, List.mem_of_getElem? (i := 646) (by decide +kernel), List.mem_of_getElem? (i := 777) (by decide +kernel), List.mem_of_getElem? (i := 778) (by decide +kernel)⟩
theorem lw_p39 : lw_okq (⟨"RollingBallsModel", "places", "()I"⟩, 15) := ⟨⟨by decide +kernel, by decide +kernel⟩, List.mem_of_getElem? (i := 646) (by decide +kernel), List.mem_of_getElem? (i := 781) (by decide +kernel), List.mem_of_getElem? (i := 782) (by decide +kernel)⟩
theorem lw_p40 : lw_okq (⟨"RollingBallsModel", "isSafe", "(I)Z"⟩, 15) := ⟨⟨by decide +kernel, by decide +kernel⟩, List.mem_of_getElem? (i := 646) (by decide +kernel), List.mem_of_getElem? (i := 793) (by decide +kernel), List.mem_of_getElem? (i := 794) (by decide +kernel)⟩
theorem lw_p41 : lw_okq (⟨"RollingBallsModel", "manyOf", "(I)I"⟩, 15) := ⟨⟨by decide +kernel, by decide +kernel⟩, List.mem_of_getElem? (i := 646) (by decide +kernel), List.mem_of_getElem? (i := 817) (by decide +kernel), List.mem_of_getElem? (i := 818) (by decide +kernel)⟩
theorem lw_p42 : lw_okq (⟨"RollingBallsModel", "lengthOf", "(I)I"⟩, 15) := ⟨⟨by decide +kernel, by decide +kernel⟩, List.mem_of_getElem? (i := 646) (by decide +kernel), List.mem_of_getElem? (i := 821) (by decide +kernel), List.mem_of_getElem? (i := 822) (by decide +kernel)⟩
theorem lw_p43 : lw_okq (⟨"RollingBallsModel", "does", "(I)Z"⟩, 15) := ⟨⟨by decide +kernel, by decide +kernel⟩, List.mem_of_getElem? (i := 646) (by decide +kernel), List.mem_of_getElem? (i := 825) (by decide +kernel), List.mem_of_getElem? (i := 826) (by decide +kernel)⟩
def lw_privs_3 : List (MethodName × Nat) := [(⟨"RollingBallsModel", "restAt", "(II)V"⟩, 15), (⟨"RollingBallsModel", "placeAt", "(II)I"⟩, 15), (⟨"RollingBallsModel", "across", "()I"⟩, 15), (⟨"RollingBallsModel", "isNear", "(III)Z"⟩, 15), (⟨"RollingBallsModel", "distance", "(III)I"⟩, 15), (⟨"RollingBallsModel", "isTouched", "(III)Z"⟩, 15), (⟨"RollingBallsModel", "roll", "()V"⟩, 15), (⟨"RollingBallsModel", "places", "()I"⟩, 15), (⟨"RollingBallsModel", "isSafe", "(I)Z"⟩, 15), (⟨"RollingBallsModel", "manyOf", "(I)I"⟩, 15), (⟨"RollingBallsModel", "lengthOf", "(I)I"⟩, 15), (⟨"RollingBallsModel", "does", "(I)Z"⟩, 15)]
theorem lw_r3 : ∀ q ∈ lw_privs_3, lw_okq q := List.forall_mem_cons.mpr ⟨lw_p32, List.forall_mem_cons.mpr ⟨lw_p33, List.forall_mem_cons.mpr ⟨lw_p34, List.forall_mem_cons.mpr ⟨lw_p35, List.forall_mem_cons.mpr ⟨lw_p36, List.forall_mem_cons.mpr ⟨lw_p37, List.forall_mem_cons.mpr ⟨lw_p38, List.forall_mem_cons.mpr ⟨lw_p39, List.forall_mem_cons.mpr ⟨lw_p40, List.forall_mem_cons.mpr ⟨lw_p41, List.forall_mem_cons.mpr ⟨lw_p42, List.forall_mem_cons.mpr ⟨lw_p43, fun _ h => absurd h List.not_mem_nil⟩⟩⟩⟩⟩⟩⟩⟩⟩⟩⟩⟩
def lw_privs : List (MethodName × Nat) := lw_privs_1 ++ (lw_privs_2 ++ (lw_privs_3))
def lw_tbl : List Cond := k2_sels lw_privs ++ tables_1
theorem lw_privs_ok : ∀ q ∈ lw_privs, lw_okq q := by
  show ∀ q ∈ lw_privs_1 ++ (lw_privs_2 ++ (lw_privs_3)), lw_okq q
  exact List.forall_mem_append.mpr ⟨lw_r1, List.forall_mem_append.mpr ⟨lw_r2, lw_r3⟩⟩

/-! names: classes, their fields, their methods (out of javap's listing and the tables) -/
def gT : List Cond := lw_tbl.filter goodWord
theorem gw_all : ∀ w ∈ gT, goodWord w = true := fun w h => (List.mem_filter.mp h).2
theorem gw_lw : ∀ w ∈ gT, w ∈ lw_tbl := fun w h => (List.mem_filter.mp h).1
theorem gw_in {c1 : Cond} {S : List Cond} (h : ∀ w ∈ S, w ∈ gT) : GoodIn (c1 :: gT) S := fun w hw => ⟨List.mem_cons_of_mem _ (h w hw), good_of_word (gw_all w (h w hw))⟩
theorem gw_V {c1 cd : Cond} {own C : String} {idx : Nat} {y : MethodName} (h1 : .methodLink own idx y ∈ gT) (h2 : .instanceMethod y ∈ gT) (h3 : .selects C y y ∈ gT) (h4 : .initialized C ∈ gT) (h5 : cd ∈ gT) : GoodIn (c1 :: gT) (wsV own idx C y (cd :: gT)) := gw_in (fun w hw => by
  simp only [wsV, List.cons_append, List.nil_append, List.mem_cons] at hw
  rcases hw with rfl | rfl | rfl | rfl | rfl | hw
  · exact h1
  · exact h2
  · exact h3
  · exact h4
  · exact h5
  · exact hw)
theorem gw_S {c1 cd : Cond} {own : String} {idx : Nat} {y : MethodName} (h1 : .methodLink own idx y ∈ gT) (h2 : .static y ∈ gT) (h3 : .initialized y.cls ∈ gT) (h5 : cd ∈ gT) : GoodIn (c1 :: gT) (va_wsS own idx y (cd :: gT)) := gw_in (fun w hw => by
  simp only [va_wsS, List.cons_append, List.nil_append, List.mem_cons] at hw
  rcases hw with rfl | rfl | rfl | rfl | hw
  · exact h1
  · exact h2
  · exact h3
  · exact h5
  · exact hw)
theorem gw_I {c1 cd : Cond} (h5 : cd ∈ gT) : GoodIn (c1 :: gT) (cd :: gT) := gw_in (fun w hw => (List.mem_cons.mp hw).elim (fun e => e ▸ h5) id)
theorem gw_up {c1 : Cond} {S : List Cond} (h : ∀ w ∈ S, w ∈ gT) : ∀ w ∈ S, w ∈ c1 :: gT := fun w hw => List.mem_cons_of_mem _ (h w hw)
def RRB : String := "RollingBalls"
def TRB : u_T := fun k => match k with
  | 0 => ("RollingBalls", "w", "I", true)
  | 1 => ("RollingBalls", "d", "I", true)
  | 2 => ("RollingBalls", "\x72", "I", true)
  | 3 => ("RollingBalls", "house", "LRollingBalls$House;", true)
  | 4 => ("RollingBalls", "ball", "LRollingBalls$Ball;", true)
  | 5 => ("RollingBalls", "plan", "LRollingBalls$Plan;", true)
  | _ => ("RollingBalls", "safeBefore", "[Z", true)
def tyRB : Nat → FieldType := fun k => match k with
  | 0 => .int
  | 1 => .int
  | 2 => .int
  | 3 => .object "RollingBalls$House"
  | 4 => .object "RollingBalls$Ball"
  | 5 => .object "RollingBalls$Plan"
  | _ => .array .boolean
theorem nmRB : ∀ a, a < 7 → ∀ b, b < 7 → a ≠ b → (TRB a).2.1 ≠ (TRB b).2.1 := by decide +kernel
theorem tyRB_ok : ∀ k, k < 7 → parseFieldDescriptor (TRB k).2.2.1 = some (tyRB k) := by decide +kernel
theorem inRB0 : ∀ w ∈ u_ws RRB TRB 7, w ∈ gT := by decide +kernel
theorem inRB {c1 : Cond} : ∀ w ∈ u_ws RRB TRB 7, w ∈ c1 :: gT := gw_up inRB0
def RBA : String := "RollingBalls$Ball"
def TBA : u_T := fun k => match k with
  | 0 => ("RollingBalls$Ball", "shadow", "LRollingBalls$Shadow;", true)
  | 1 => ("RollingBalls$Ball", "homes", "[I", true)
  | 2 => ("RollingBalls$Ball", "rests", "[I", true)
  | 3 => ("RollingBalls$Ball", "ground", "I", true)
  | 4 => ("RollingBalls$Ball", "owners", "[I", true)
  | 5 => ("RollingBalls$Ball", "hitCounts", "[I", true)
  | 6 => ("RollingBalls$Ball", "listed", "[I", true)
  | 7 => ("RollingBalls$Ball", "listedCount", "I", false)
  | 8 => ("RollingBalls$Ball", "house", "LRollingBalls$House;", true)
  | 9 => ("RollingBalls$Ball", "\x72", "I", true)
  | 10 => ("RollingBalls$Ball", "placesAcross", "I", true)
  | _ => ("RollingBalls$Ball", "touchCounts", "[I", true)
def tyBA : Nat → FieldType := fun k => match k with
  | 0 => .object "RollingBalls$Shadow"
  | 1 => .array .int
  | 2 => .array .int
  | 3 => .int
  | 4 => .array .int
  | 5 => .array .int
  | 6 => .array .int
  | 7 => .int
  | 8 => .object "RollingBalls$House"
  | 9 => .int
  | 10 => .int
  | _ => .array .int
theorem nmBA : ∀ a, a < 12 → ∀ b, b < 12 → a ≠ b → (TBA a).2.1 ≠ (TBA b).2.1 := by decide +kernel
theorem tyBA_ok : ∀ k, k < 12 → parseFieldDescriptor (TBA k).2.2.1 = some (tyBA k) := by decide +kernel
theorem inBA0 : ∀ w ∈ u_ws RBA TBA 12, w ∈ gT := by decide +kernel
theorem inBA {c1 : Cond} : ∀ w ∈ u_ws RBA TBA 12, w ∈ c1 :: gT := gw_up inBA0
def RHO : String := "RollingBalls$House"
def THO : u_T := fun k => match k with
  | 0 => ("RollingBalls$House", "w", "I", true)
  | 1 => ("RollingBalls$House", "d", "I", true)
  | 2 => ("RollingBalls$House", "points", "I", true)
  | 3 => ("RollingBalls$House", "columns", "[I", true)
  | 4 => ("RollingBalls$House", "rows", "[I", true)
  | 5 => ("RollingBalls$House", "heights", "[I", true)
  | 6 => ("RollingBalls$House", "rods", "[I", true)
  | 7 => ("RollingBalls$House", "tips", "[I", true)
  | _ => ("RollingBalls$House", "rowTops", "[I", true)
def tyHO : Nat → FieldType := fun k => match k with
  | 0 => .int
  | 1 => .int
  | 2 => .int
  | 3 => .array .int
  | 4 => .array .int
  | 5 => .array .int
  | 6 => .array .int
  | 7 => .array .int
  | _ => .array .int
theorem nmHO : ∀ a, a < 9 → ∀ b, b < 9 → a ≠ b → (THO a).2.1 ≠ (THO b).2.1 := by decide +kernel
theorem tyHO_ok : ∀ k, k < 9 → parseFieldDescriptor (THO k).2.2.1 = some (tyHO k) := by decide +kernel
theorem inHO0 : ∀ w ∈ u_ws RHO THO 9, w ∈ gT := by decide +kernel
theorem inHO {c1 : Cond} : ∀ w ∈ u_ws RHO THO 9, w ∈ c1 :: gT := gw_up inHO0
def RSH : String := "RollingBalls$Shadow"
def TSH : u_T := fun k => match k with
  | 0 => ("RollingBalls$Shadow", "size", "I", true)
  | 1 => ("RollingBalls$Shadow", "across", "[I", true)
  | 2 => ("RollingBalls$Shadow", "along", "[I", true)
  | 3 => ("RollingBalls$Shadow", "strides", "[I", true)
  | 4 => ("RollingBalls$Shadow", "lifts", "[I", true)
  | 5 => ("RollingBalls$Shadow", "square", "[I", true)
  | _ => ("RollingBalls$Shadow", "side", "I", true)
def tySH : Nat → FieldType := fun k => match k with
  | 0 => .int
  | 1 => .array .int
  | 2 => .array .int
  | 3 => .array .int
  | 4 => .array .int
  | 5 => .array .int
  | _ => .int
theorem nmSH : ∀ a, a < 7 → ∀ b, b < 7 → a ≠ b → (TSH a).2.1 ≠ (TSH b).2.1 := by decide +kernel
theorem tySH_ok : ∀ k, k < 7 → parseFieldDescriptor (TSH k).2.2.1 = some (tySH k) := by decide +kernel
theorem inSH0 : ∀ w ∈ u_ws RSH TSH 7, w ∈ gT := by decide +kernel
theorem inSH {c1 : Cond} : ∀ w ∈ u_ws RSH TSH 7, w ∈ c1 :: gT := gw_up inSH0
def RPL : String := "RollingBalls$Plan"
def TPL : u_T := fun k => match k with
  | 0 => ("RollingBalls$Plan", "candidatePoints", "[I", true)
  | 1 => ("RollingBalls$Plan", "candidateLengths", "[I", true)
  | 2 => ("RollingBalls$Plan", "candidates", "I", false)
  | 3 => ("RollingBalls$Plan", "wanted", "[Z", true)
  | 4 => ("RollingBalls$Plan", "house", "LRollingBalls$House;", true)
  | 5 => ("RollingBalls$Plan", "ball", "LRollingBalls$Ball;", true)
  | 6 => ("RollingBalls$Plan", "choicePoints", "[I", true)
  | 7 => ("RollingBalls$Plan", "choiceTips", "[I", true)
  | 8 => ("RollingBalls$Plan", "choiceSets", "[I", true)
  | 9 => ("RollingBalls$Plan", "choices", "I", false)
  | 10 => ("RollingBalls$Plan", "sinkingSets", "I", false)
  | _ => ("RollingBalls$Plan", "lowTips", "[I", true)
def tyPL : Nat → FieldType := fun k => match k with
  | 0 => .array .int
  | 1 => .array .int
  | 2 => .int
  | 3 => .array .boolean
  | 4 => .object "RollingBalls$House"
  | 5 => .object "RollingBalls$Ball"
  | 6 => .array .int
  | 7 => .array .int
  | 8 => .array .int
  | 9 => .int
  | 10 => .int
  | _ => .array .int
theorem nmPL : ∀ a, a < 12 → ∀ b, b < 12 → a ≠ b → (TPL a).2.1 ≠ (TPL b).2.1 := by decide +kernel
theorem tyPL_ok : ∀ k, k < 12 → parseFieldDescriptor (TPL k).2.2.1 = some (tyPL k) := by decide +kernel
theorem inPL0 : ∀ w ∈ u_ws RPL TPL 12, w ∈ gT := by decide +kernel
theorem inPL {c1 : Cond} : ∀ w ∈ u_ws RPL TPL 12, w ∈ c1 :: gT := gw_up inPL0
def RMO : String := "RollingBallsModel"
def TMO : u_T := fun k => match k with
  | 0 => ("RollingBallsModel", "code", "I", false)
  | 1 => ("RollingBallsModel", "wide", "I", true)
  | 2 => ("RollingBallsModel", "deep", "I", true)
  | 3 => ("RollingBallsModel", "radius", "I", true)
  | 4 => ("RollingBallsModel", "heights", "[I", true)
  | 5 => ("RollingBallsModel", "rods", "[I", true)
  | 6 => ("RollingBallsModel", "tips", "[I", true)
  | 7 => ("RollingBallsModel", "wanted", "[Z", true)
  | 8 => ("RollingBallsModel", "may", "I", false)
  | 9 => ("RollingBallsModel", "mayPoint", "[I", true)
  | 10 => ("RollingBallsModel", "mayLength", "[I", true)
  | 11 => ("RollingBallsModel", "whole", "[I", true)
  | 12 => ("RollingBallsModel", "square", "[I", true)
  | 13 => ("RollingBallsModel", "hits", "[I", true)
  | _ => ("RollingBallsModel", "wasSafe", "[Z", true)
def tyMO : Nat → FieldType := fun k => match k with
  | 0 => .int
  | 1 => .int
  | 2 => .int
  | 3 => .int
  | 4 => .array .int
  | 5 => .array .int
  | 6 => .array .int
  | 7 => .array .boolean
  | 8 => .int
  | 9 => .array .int
  | 10 => .array .int
  | 11 => .array .int
  | 12 => .array .int
  | 13 => .array .int
  | _ => .array .boolean
theorem nmMO : ∀ a, a < 15 → ∀ b, b < 15 → a ≠ b → (TMO a).2.1 ≠ (TMO b).2.1 := by decide +kernel
theorem tyMO_ok : ∀ k, k < 15 → parseFieldDescriptor (TMO k).2.2.1 = some (tyMO k) := by decide +kernel
theorem inMO0 : ∀ w ∈ u_ws RMO TMO 15, w ∈ gT := by decide +kernel
theorem inMO {c1 : Cond} : ∀ w ∈ u_ws RMO TMO 15, w ∈ c1 :: gT := gw_up inMO0
def RLE : String := "RollingBalls$Level"
def RLW : String := "RollingBallsLaw"
def RJA : String := "java/util/Arrays"
def RJI : String := "java/lang/Integer"
abbrev vwCl : List vw_C := [(RRB, TRB, 7), (RBA, TBA, 12), (RHO, THO, 9), (RSH, TSH, 7), (RPL, TPL, 12), (RMO, TMO, 15)]
abbrev cRB_init : ByteArray := prog_1_method_1_code
def yRB_init : MethodName := ⟨RRB, "<init>", "(III)V"⟩
def wsRB_init : List Cond := .code yRB_init cRB_init 4 none :: gT
abbrev cRB_height : ByteArray := prog_1_method_2_code
def yRB_height : MethodName := ⟨RRB, "height", "(III)I"⟩
def wsRB_height : List Cond := .code yRB_height cRB_height 6 (some .int) :: gT
abbrev cRB_rod : ByteArray := prog_1_method_3_code
def yRB_rod : MethodName := ⟨RRB, "rod", "(III)I"⟩
def wsRB_rod : List Cond := .code yRB_rod cRB_rod 6 (some .int) :: gT
abbrev cRB_rest : ByteArray := prog_1_method_4_code
def yRB_rest : MethodName := ⟨RRB, "rest", "(III)I"⟩
def wsRB_rest : List Cond := .code yRB_rest cRB_rest 5 (some .int) :: gT
abbrev cRB_touched : ByteArray := prog_1_method_5_code
def yRB_touched : MethodName := ⟨RRB, "touched", "(III)I"⟩
def wsRB_touched : List Cond := .code yRB_touched cRB_touched 4 (some .int) :: gT
abbrev cRB_higher : ByteArray := prog_1_method_6_code
def yRB_higher : MethodName := ⟨RRB, "higher", "(IIII)I"⟩
def wsRB_higher : List Cond := .code yRB_higher cRB_higher 5 (some .int) :: gT
abbrev cRB_tops : ByteArray := prog_1_method_7_code
def yRB_tops : MethodName := ⟨RRB, "tops", "()I"⟩
def wsRB_tops : List Cond := .code yRB_tops cRB_tops 1 (some .int) :: gT
abbrev cRB_hits : ByteArray := prog_1_method_8_code
def yRB_hits : MethodName := ⟨RRB, "hits", "(II)I"⟩
def wsRB_hits : List Cond := .code yRB_hits cRB_hits 3 (some .int) :: gT
abbrev cRB_safe : ByteArray := prog_1_method_9_code
def yRB_safe : MethodName := ⟨RRB, "safe", "(I)I"⟩
def wsRB_safe : List Cond := .code yRB_safe cRB_safe 4 (some .int) :: gT
abbrev cRB_cover : ByteArray := prog_1_method_10_code
def yRB_cover : MethodName := ⟨RRB, "cover", "(II)I"⟩
def wsRB_cover : List Cond := .code yRB_cover cRB_cover 3 (some .int) :: gT
abbrev cRB_may : ByteArray := prog_1_method_11_code
def yRB_may : MethodName := ⟨RRB, "may", "(III)I"⟩
def wsRB_may : List Cond := .code yRB_may cRB_may 5 (some .int) :: gT
abbrev cRB_forget : ByteArray := prog_1_method_12_code
def yRB_forget : MethodName := ⟨RRB, "forget", "()I"⟩
def wsRB_forget : List Cond := .code yRB_forget cRB_forget 2 (some .int) :: gT
abbrev cRB_want : ByteArray := prog_1_method_13_code
def yRB_want : MethodName := ⟨RRB, "want", "(IIZ)Z"⟩
def wsRB_want : List Cond := .code yRB_want cRB_want 6 (some .boolean) :: gT
abbrev cRB_choose : ByteArray := prog_1_method_14_code
def yRB_choose : MethodName := ⟨RRB, "choose", "()I"⟩
def wsRB_choose : List Cond := .code yRB_choose cRB_choose 1 (some .int) :: gT
abbrev cRB_put : ByteArray := prog_1_method_15_code
def yRB_put : MethodName := ⟨RRB, "put", "(I)I"⟩
def wsRB_put : List Cond := .code yRB_put cRB_put 4 (some .int) :: gT
abbrev cRB_putRod : ByteArray := prog_1_method_16_code
def yRB_putRod : MethodName := ⟨RRB, "putRod", "(II)V"⟩
def wsRB_putRod : List Cond := .code yRB_putRod cRB_putRod 3 none :: gT
abbrev cRB_numberOf : ByteArray := prog_1_method_17_code
def yRB_numberOf : MethodName := ⟨RRB, "numberOf", "(I)I"⟩
def wsRB_numberOf : List Cond := .code yRB_numberOf cRB_numberOf 2 (some .int) :: gT
abbrev cRB_pointAt : ByteArray := prog_1_method_18_code
def yRB_pointAt : MethodName := ⟨RRB, "pointAt", "(II)I"⟩
def wsRB_pointAt : List Cond := .code yRB_pointAt cRB_pointAt 3 (some .int) :: gT
abbrev cRB_needPlace : ByteArray := prog_1_method_19_code
def yRB_needPlace : MethodName := ⟨RRB, "needPlace", "(II)V"⟩
def wsRB_needPlace : List Cond := .code yRB_needPlace cRB_needPlace 3 none :: gT
abbrev cRB_needIndex : ByteArray := prog_1_method_20_code
def yRB_needIndex : MethodName := ⟨RRB, "needIndex", "(I)V"⟩
def wsRB_needIndex : List Cond := .code yRB_needIndex cRB_needIndex 1 none :: gT
abbrev cRB_needNumber : ByteArray := prog_1_method_21_code
def yRB_needNumber : MethodName := ⟨RRB, "needNumber", "(III)V"⟩
def wsRB_needNumber : List Cond := .code yRB_needNumber cRB_needNumber 3 none :: gT
abbrev cRB_between : ByteArray := prog_1_method_22_code
def yRB_between : MethodName := ⟨RRB, "between", "(III)I"⟩
def wsRB_between : List Cond := .code yRB_between cRB_between 3 (some .int) :: gT
abbrev cMO_init : ByteArray := prog_8_method_1_code
def yMO_init : MethodName := ⟨RMO, "<init>", "(III)V"⟩
def wsMO_init : List Cond := .code yMO_init cMO_init 4 none :: gT
abbrev cMO_nearest : ByteArray := prog_8_method_2_code
def yMO_nearest : MethodName := ⟨RMO, "nearest", "(II)I"⟩
def wsMO_nearest : List Cond := .code yMO_nearest cMO_nearest 2 (some .int) :: gT
abbrev cMO_thrown : ByteArray := prog_8_method_3_code
def yMO_thrown : MethodName := ⟨RMO, "thrown", "()I"⟩
def wsMO_thrown : List Cond := .code yMO_thrown cMO_thrown 1 (some .int) :: gT
abbrev cMO_in : ByteArray := prog_8_method_4_code
def yMO_in : MethodName := ⟨RMO, "in", "(III)Z"⟩
def wsMO_in : List Cond := .code yMO_in cMO_in 3 (some .boolean) :: gT
abbrev cMO_isPoint : ByteArray := prog_8_method_5_code
def yMO_isPoint : MethodName := ⟨RMO, "isPoint", "(II)Z"⟩
def wsMO_isPoint : List Cond := .code yMO_isPoint cMO_isPoint 3 (some .boolean) :: gT
abbrev cMO_isPlace : ByteArray := prog_8_method_6_code
def yMO_isPlace : MethodName := ⟨RMO, "isPlace", "(II)Z"⟩
def wsMO_isPlace : List Cond := .code yMO_isPlace cMO_isPlace 3 (some .boolean) :: gT
abbrev cMO_spot : ByteArray := prog_8_method_7_code
def yMO_spot : MethodName := ⟨RMO, "spot", "(II)I"⟩
def wsMO_spot : List Cond := .code yMO_spot cMO_spot 2 (some .int) :: gT
abbrev cMO_across : ByteArray := prog_8_method_8_code
def yMO_across : MethodName := ⟨RMO, "across", "()I"⟩
def wsMO_across : List Cond := .code yMO_across cMO_across 1 (some .int) :: gT
abbrev cMO_places : ByteArray := prog_8_method_9_code
def yMO_places : MethodName := ⟨RMO, "places", "()I"⟩
def wsMO_places : List Cond := .code yMO_places cMO_places 1 (some .int) :: gT
abbrev cMO_placeAt : ByteArray := prog_8_method_10_code
def yMO_placeAt : MethodName := ⟨RMO, "placeAt", "(II)I"⟩
def wsMO_placeAt : List Cond := .code yMO_placeAt cMO_placeAt 3 (some .int) :: gT
abbrev cMO_compare : ByteArray := prog_8_method_11_code
def yMO_compare : MethodName := ⟨RMO, "compare", "(IIII)I"⟩
def wsMO_compare : List Cond := .code yMO_compare cMO_compare 8 (some .int) :: gT
abbrev cMO_rootOf : ByteArray := prog_8_method_12_code
def yMO_rootOf : MethodName := ⟨RMO, "rootOf", "(I)I"⟩
def wsMO_rootOf : List Cond := .code yMO_rootOf cMO_rootOf 2 (some .int) :: gT
abbrev cMO_distance : ByteArray := prog_8_method_13_code
def yMO_distance : MethodName := ⟨RMO, "distance", "(III)I"⟩
def wsMO_distance : List Cond := .code yMO_distance cMO_distance 6 (some .int) :: gT
abbrev cMO_isNear : ByteArray := prog_8_method_14_code
def yMO_isNear : MethodName := ⟨RMO, "isNear", "(III)Z"⟩
def wsMO_isNear : List Cond := .code yMO_isNear cMO_isNear 4 (some .boolean) :: gT
abbrev cMO_restAt : ByteArray := prog_8_method_15_code
def yMO_restAt : MethodName := ⟨RMO, "restAt", "(II)V"⟩
def wsMO_restAt : List Cond := .code yMO_restAt cMO_restAt 6 none :: gT
abbrev cMO_isTouched : ByteArray := prog_8_method_16_code
def yMO_isTouched : MethodName := ⟨RMO, "isTouched", "(III)Z"⟩
def wsMO_isTouched : List Cond := .code yMO_isTouched cMO_isTouched 5 (some .boolean) :: gT
abbrev cMO_stand : ByteArray := prog_8_method_17_code
def yMO_stand : MethodName := ⟨RMO, "stand", "()V"⟩
def wsMO_stand : List Cond := .code yMO_stand cMO_stand 2 none :: gT
abbrev cMO_roll : ByteArray := prog_8_method_18_code
def yMO_roll : MethodName := ⟨RMO, "roll", "()V"⟩
def wsMO_roll : List Cond := .code yMO_roll cMO_roll 4 none :: gT
abbrev cMO_height : ByteArray := prog_8_method_19_code
def yMO_height : MethodName := ⟨RMO, "height", "(III)I"⟩
def wsMO_height : List Cond := .code yMO_height cMO_height 5 (some .int) :: gT
abbrev cMO_rod : ByteArray := prog_8_method_20_code
def yMO_rod : MethodName := ⟨RMO, "rod", "(III)I"⟩
def wsMO_rod : List Cond := .code yMO_rod cMO_rod 5 (some .int) :: gT
abbrev cMO_rest : ByteArray := prog_8_method_21_code
def yMO_rest : MethodName := ⟨RMO, "rest", "(III)I"⟩
def wsMO_rest : List Cond := .code yMO_rest cMO_rest 8 (some .int) :: gT
abbrev cMO_touched : ByteArray := prog_8_method_22_code
def yMO_touched : MethodName := ⟨RMO, "touched", "(III)I"⟩
def wsMO_touched : List Cond := .code yMO_touched cMO_touched 6 (some .int) :: gT
abbrev cMO_higher : ByteArray := prog_8_method_23_code
def yMO_higher : MethodName := ⟨RMO, "higher", "(IIII)I"⟩
def wsMO_higher : List Cond := .code yMO_higher cMO_higher 7 (some .int) :: gT
abbrev cMO_tops : ByteArray := prog_8_method_24_code
def yMO_tops : MethodName := ⟨RMO, "tops", "()I"⟩
def wsMO_tops : List Cond := .code yMO_tops cMO_tops 5 (some .int) :: gT
abbrev cMO_hits : ByteArray := prog_8_method_25_code
def yMO_hits : MethodName := ⟨RMO, "hits", "(II)I"⟩
def wsMO_hits : List Cond := .code yMO_hits cMO_hits 3 (some .int) :: gT
abbrev cMO_isSafe : ByteArray := prog_8_method_26_code
def yMO_isSafe : MethodName := ⟨RMO, "isSafe", "(I)Z"⟩
def wsMO_isSafe : List Cond := .code yMO_isSafe cMO_isSafe 2 (some .boolean) :: gT
abbrev cMO_safe : ByteArray := prog_8_method_27_code
def yMO_safe : MethodName := ⟨RMO, "safe", "(I)I"⟩
def wsMO_safe : List Cond := .code yMO_safe cMO_safe 4 (some .int) :: gT
abbrev cMO_cover : ByteArray := prog_8_method_28_code
def yMO_cover : MethodName := ⟨RMO, "cover", "(II)I"⟩
def wsMO_cover : List Cond := .code yMO_cover cMO_cover 10 (some .int) :: gT
abbrev cMO_may : ByteArray := prog_8_method_29_code
def yMO_may : MethodName := ⟨RMO, "may", "(III)I"⟩
def wsMO_may : List Cond := .code yMO_may cMO_may 4 (some .int) :: gT
abbrev cMO_forget : ByteArray := prog_8_method_30_code
def yMO_forget : MethodName := ⟨RMO, "forget", "()I"⟩
def wsMO_forget : List Cond := .code yMO_forget cMO_forget 2 (some .int) :: gT
abbrev cMO_want : ByteArray := prog_8_method_31_code
def yMO_want : MethodName := ⟨RMO, "want", "(IIZ)Z"⟩
def wsMO_want : List Cond := .code yMO_want cMO_want 5 (some .boolean) :: gT
abbrev cMO_does : ByteArray := prog_8_method_32_code
def yMO_does : MethodName := ⟨RMO, "does", "(I)Z"⟩
def wsMO_does : List Cond := .code yMO_does cMO_does 4 (some .boolean) :: gT
abbrev cMO_manyOf : ByteArray := prog_8_method_33_code
def yMO_manyOf : MethodName := ⟨RMO, "manyOf", "(I)I"⟩
def wsMO_manyOf : List Cond := .code yMO_manyOf cMO_manyOf 2 (some .int) :: gT
abbrev cMO_lengthOf : ByteArray := prog_8_method_34_code
def yMO_lengthOf : MethodName := ⟨RMO, "lengthOf", "(I)I"⟩
def wsMO_lengthOf : List Cond := .code yMO_lengthOf cMO_lengthOf 4 (some .int) :: gT
abbrev cMO_choose : ByteArray := prog_8_method_35_code
def yMO_choose : MethodName := ⟨RMO, "choose", "()I"⟩
def wsMO_choose : List Cond := .code yMO_choose cMO_choose 4 (some .int) :: gT
abbrev cMO_put : ByteArray := prog_8_method_36_code
def yMO_put : MethodName := ⟨RMO, "put", "(I)I"⟩
def wsMO_put : List Cond := .code yMO_put cMO_put 4 (some .int) :: gT
abbrev cBA_init : ByteArray := prog_2_method_1_code
def yBA_init : MethodName := ⟨RBA, "<init>", "(LRollingBalls$House;I)V"⟩
def wsBA_init : List Cond := .code yBA_init cBA_init 5 none :: gT
abbrev cBA_restAt : ByteArray := prog_2_method_2_code
def yBA_restAt : MethodName := ⟨RBA, "restAt", "(II)I"⟩
def wsBA_restAt : List Cond := .code yBA_restAt cBA_restAt 3 (some .int) :: gT
abbrev cBA_countTouched : ByteArray := prog_2_method_3_code
def yBA_countTouched : MethodName := ⟨RBA, "countTouched", "(II)I"⟩
def wsBA_countTouched : List Cond := .code yBA_countTouched cBA_countTouched 3 (some .int) :: gT
abbrev cBA_listTouched : ByteArray := prog_2_method_4_code
def yBA_listTouched : MethodName := ⟨RBA, "listTouched", "(II)V"⟩
def wsBA_listTouched : List Cond := .code yBA_listTouched cBA_listTouched 3 none :: gT
abbrev cBA_isSafe : ByteArray := prog_2_method_5_code
def yBA_isSafe : MethodName := ⟨RBA, "isSafe", "(I)Z"⟩
def wsBA_isSafe : List Cond := .code yBA_isSafe cBA_isSafe 2 (some .boolean) :: gT
abbrev cBA_countHighestPlaces : ByteArray := prog_2_method_6_code
def yBA_countHighestPlaces : MethodName := ⟨RBA, "countHighestPlaces", "()I"⟩
def wsBA_countHighestPlaces : List Cond := .code yBA_countHighestPlaces cBA_countHighestPlaces 7 (some .int) :: gT
abbrev cBA_coverOf : ByteArray := prog_2_method_7_code
def yBA_coverOf : MethodName := ⟨RBA, "coverOf", "(I)I"⟩
def wsBA_coverOf : List Cond := .code yBA_coverOf cBA_coverOf 5 (some .int) :: gT
abbrev cBA_moveTip : ByteArray := prog_2_method_8_code
def yBA_moveTip : MethodName := ⟨RBA, "moveTip", "(II)V"⟩
def wsBA_moveTip : List Cond := .code yBA_moveTip cBA_moveTip 4 none :: gT
abbrev cBA_raiseTip : ByteArray := prog_2_method_9_code
def yBA_raiseTip : MethodName := ⟨RBA, "raiseTip", "(II)V"⟩
def wsBA_raiseTip : List Cond := .code yBA_raiseTip cBA_raiseTip 9 none :: gT
abbrev cBA_leave : ByteArray := prog_2_method_10_code
def yBA_leave : MethodName := ⟨RBA, "leave", "(III)V"⟩
def wsBA_leave : List Cond := .code yBA_leave cBA_leave 5 none :: gT
abbrev cBA_lowerTip : ByteArray := prog_2_method_11_code
def yBA_lowerTip : MethodName := ⟨RBA, "lowerTip", "(II)V"⟩
def wsBA_lowerTip : List Cond := .code yBA_lowerTip cBA_lowerTip 10 none :: gT
abbrev cBA_settle : ByteArray := prog_2_method_12_code
def yBA_settle : MethodName := ⟨RBA, "settle", "(III)V"⟩
def wsBA_settle : List Cond := .code yBA_settle cBA_settle 4 none :: gT
abbrev cBA_countListed : ByteArray := prog_2_method_13_code
def yBA_countListed : MethodName := ⟨RBA, "countListed", "(I)V"⟩
def wsBA_countListed : List Cond := .code yBA_countListed cBA_countListed 3 none :: gT
abbrev cBA_liftOver : ByteArray := prog_2_method_14_code
def yBA_liftOver : MethodName := ⟨RBA, "liftOver", "(III)I"⟩
def wsBA_liftOver : List Cond := .code yBA_liftOver cBA_liftOver 7 (some .int) :: gT
abbrev cBA_climb : ByteArray := prog_2_method_15_code
def yBA_climb : MethodName := ⟨RBA, "climb", "([IIII)I"⟩
def wsBA_climb : List Cond := .code yBA_climb cBA_climb 22 (some .int) :: gT
abbrev cBA_placeIndex : ByteArray := prog_2_method_16_code
def yBA_placeIndex : MethodName := ⟨RBA, "placeIndex", "(II)I"⟩
def wsBA_placeIndex : List Cond := .code yBA_placeIndex cBA_placeIndex 3 (some .int) :: gT
abbrev cHO_init : ByteArray := prog_3_method_1_code
def yHO_init : MethodName := ⟨RHO, "<init>", "(II)V"⟩
def wsHO_init : List Cond := .code yHO_init cHO_init 5 none :: gT
abbrev cHO_tipWith : ByteArray := prog_3_method_2_code
def yHO_tipWith : MethodName := ⟨RHO, "tipWith", "(II)I"⟩
def wsHO_tipWith : List Cond := .code yHO_tipWith cHO_tipWith 3 (some .int) :: gT
abbrev cHO_setTip : ByteArray := prog_3_method_3_code
def yHO_setTip : MethodName := ⟨RHO, "setTip", "(II)V"⟩
def wsHO_setTip : List Cond := .code yHO_setTip cHO_setTip 6 none :: gT
abbrev cLE_floor : ByteArray := prog_4_method_2_code
def yLE_floor : MethodName := ⟨RLE, "floor", "(I)I"⟩
def wsLE_floor : List Cond := .code yLE_floor cLE_floor 1 (some .int) :: gT
abbrev cLE_isWhole : ByteArray := prog_4_method_3_code
def yLE_isWhole : MethodName := ⟨RLE, "isWhole", "(I)Z"⟩
def wsLE_isWhole : List Cond := .code yLE_isWhole cLE_isWhole 1 (some .boolean) :: gT
abbrev cPL_init : ByteArray := prog_5_method_1_code
def yPL_init : MethodName := ⟨RPL, "<init>", "(LRollingBalls$House;LRollingBalls$Ball;)V"⟩
def wsPL_init : List Cond := .code yPL_init cPL_init 3 none :: gT
abbrev cPL_holds : ByteArray := prog_5_method_2_code
def yPL_holds : MethodName := ⟨RPL, "holds", "(II)Z"⟩
def wsPL_holds : List Cond := .code yPL_holds cPL_holds 2 (some .boolean) :: gT
abbrev cPL_isFull : ByteArray := prog_5_method_3_code
def yPL_isFull : MethodName := ⟨RPL, "isFull", "()Z"⟩
def wsPL_isFull : List Cond := .code yPL_isFull cPL_isFull 1 (some .boolean) :: gT
abbrev cPL_add : ByteArray := prog_5_method_4_code
def yPL_add : MethodName := ⟨RPL, "add", "(II)V"⟩
def wsPL_add : List Cond := .code yPL_add cPL_add 3 none :: gT
abbrev cPL_bestSet : ByteArray := prog_5_method_5_code
def yPL_bestSet : MethodName := ⟨RPL, "bestSet", "()I"⟩
def wsPL_bestSet : List Cond := .code yPL_bestSet cPL_bestSet 4 (some .int) :: gT
abbrev cPL_areWantedSafe : ByteArray := prog_5_method_6_code
def yPL_areWantedSafe : MethodName := ⟨RPL, "areWantedSafe", "()Z"⟩
def wsPL_areWantedSafe : List Cond := .code yPL_areWantedSafe cPL_areWantedSafe 2 (some .boolean) :: gT
abbrev cPL_isCandidate : ByteArray := prog_5_method_7_code
def yPL_isCandidate : MethodName := ⟨RPL, "isCandidate", "(I)Z"⟩
def wsPL_isCandidate : List Cond := .code yPL_isCandidate cPL_isCandidate 2 (some .boolean) :: gT
abbrev cPL_countCandidates : ByteArray := prog_5_method_8_code
def yPL_countCandidates : MethodName := ⟨RPL, "countCandidates", "(II)I"⟩
def wsPL_countCandidates : List Cond := .code yPL_countCandidates cPL_countCandidates 5 (some .int) :: gT
abbrev cPL_listChoices : ByteArray := prog_5_method_9_code
def yPL_listChoices : MethodName := ⟨RPL, "listChoices", "()V"⟩
def wsPL_listChoices : List Cond := .code yPL_listChoices cPL_listChoices 5 none :: gT
abbrev cPL_addChoice : ByteArray := prog_5_method_10_code
def yPL_addChoice : MethodName := ⟨RPL, "addChoice", "(III)V"⟩
def wsPL_addChoice : List Cond := .code yPL_addChoice cPL_addChoice 4 none :: gT
abbrev cPL_findLowTips : ByteArray := prog_5_method_11_code
def yPL_findLowTips : MethodName := ⟨RPL, "findLowTips", "()V"⟩
def wsPL_findLowTips : List Cond := .code yPL_findLowTips cPL_findLowTips 2 none :: gT
abbrev cPL_setsThatFree : ByteArray := prog_5_method_12_code
def yPL_setsThatFree : MethodName := ⟨RPL, "setsThatFree", "(II)I"⟩
def wsPL_setsThatFree : List Cond := .code yPL_setsThatFree cPL_setsThatFree 10 (some .int) :: gT
abbrev cPL_setsThatSave : ByteArray := prog_5_method_13_code
def yPL_setsThatSave : MethodName := ⟨RPL, "setsThatSave", "(II)I"⟩
def wsPL_setsThatSave : List Cond := .code yPL_setsThatSave cPL_setsThatSave 5 (some .int) :: gT
abbrev cPL_setsThatCover : ByteArray := prog_5_method_14_code
def yPL_setsThatCover : MethodName := ⟨RPL, "setsThatCover", "(III)I"⟩
def wsPL_setsThatCover : List Cond := .code yPL_setsThatCover cPL_setsThatCover 12 (some .int) :: gT
abbrev cPL_maySink : ByteArray := prog_5_method_15_code
def yPL_maySink : MethodName := ⟨RPL, "maySink", "(I)Z"⟩
def wsPL_maySink : List Cond := .code yPL_maySink cPL_maySink 3 (some .boolean) :: gT
abbrev cPL_lowRest : ByteArray := prog_5_method_16_code
def yPL_lowRest : MethodName := ⟨RPL, "lowRest", "(II)I"⟩
def wsPL_lowRest : List Cond := .code yPL_lowRest cPL_lowRest 3 (some .int) :: gT
abbrev cPL_setsThatMayLower : ByteArray := prog_5_method_17_code
def yPL_setsThatMayLower : MethodName := ⟨RPL, "setsThatMayLower", "(II)I"⟩
def wsPL_setsThatMayLower : List Cond := .code yPL_setsThatMayLower cPL_setsThatMayLower 10 (some .int) :: gT
abbrev cPL_isWantedListed : ByteArray := prog_5_method_18_code
def yPL_isWantedListed : MethodName := ⟨RPL, "isWantedListed", "()Z"⟩
def wsPL_isWantedListed : List Cond := .code yPL_isWantedListed cPL_isWantedListed 2 (some .boolean) :: gT
abbrev cPL_setsAbove : ByteArray := prog_5_method_19_code
def yPL_setsAbove : MethodName := ⟨RPL, "setsAbove", "(III)I"⟩
def wsPL_setsAbove : List Cond := .code yPL_setsAbove cPL_setsAbove 6 (some .int) :: gT
abbrev cPL_bestOf : ByteArray := prog_5_method_20_code
def yPL_bestOf : MethodName := ⟨RPL, "bestOf", "(I)I"⟩
def wsPL_bestOf : List Cond := .code yPL_bestOf cPL_bestOf 4 (some .int) :: gT
abbrev cPL_setsBetterThan : ByteArray := prog_5_method_21_code
def yPL_setsBetterThan : MethodName := ⟨RPL, "setsBetterThan", "(II)I"⟩
def wsPL_setsBetterThan : List Cond := .code yPL_setsBetterThan cPL_setsBetterThan 5 (some .int) :: gT
abbrev cPL_isBetter : ByteArray := prog_5_method_22_code
def yPL_isBetter : MethodName := ⟨RPL, "isBetter", "(II)Z"⟩
def wsPL_isBetter : List Cond := .code yPL_isBetter cPL_isBetter 5 (some .boolean) :: gT
abbrev cPL_lengthOf : ByteArray := prog_5_method_23_code
def yPL_lengthOf : MethodName := ⟨RPL, "lengthOf", "(I)I"⟩
def wsPL_lengthOf : List Cond := .code yPL_lengthOf cPL_lengthOf 4 (some .int) :: gT
abbrev cSH_init : ByteArray := prog_6_method_1_code
def ySH_init : MethodName := ⟨RSH, "<init>", "(II)V"⟩
def wsSH_init : List Cond := .code ySH_init cSH_init 9 none :: gT
abbrev cSH_firstSteps : ByteArray := prog_6_method_2_code
def ySH_firstSteps : MethodName := ⟨RSH, "firstSteps", "(I)[I"⟩
def wsSH_firstSteps : List Cond := .code ySH_firstSteps cSH_firstSteps 4 (some (.array .int)) :: gT
abbrev cLW_cell : ByteArray := method_2_code
def yLW_cell : MethodName := ⟨RLW, "cell", "([II)I"⟩
def wsLW_cell : List Cond := .code yLW_cell cLW_cell 2 (some .int) :: gT
abbrev cLW_height : ByteArray := method_3_code
def yLW_height : MethodName := ⟨RLW, "height", "(LRollingBalls;III[J)I"⟩
def wsLW_height : List Cond := .codeWith yLW_height cLW_height 6 (some .int) [(0, 12, 15, 13)] :: gT
abbrev cLW_rod : ByteArray := method_4_code
def yLW_rod : MethodName := ⟨RLW, "rod", "(LRollingBalls;III[J)I"⟩
def wsLW_rod : List Cond := .codeWith yLW_rod cLW_rod 6 (some .int) [(0, 12, 15, 13)] :: gT
abbrev cLW_rest : ByteArray := method_5_code
def yLW_rest : MethodName := ⟨RLW, "rest", "(LRollingBalls;III[J)I"⟩
def wsLW_rest : List Cond := .codeWith yLW_rest cLW_rest 6 (some .int) [(0, 12, 15, 13)] :: gT
abbrev cLW_touched : ByteArray := method_6_code
def yLW_touched : MethodName := ⟨RLW, "touched", "(LRollingBalls;III[J)I"⟩
def wsLW_touched : List Cond := .codeWith yLW_touched cLW_touched 6 (some .int) [(0, 12, 15, 13)] :: gT
abbrev cLW_higher : ByteArray := method_7_code
def yLW_higher : MethodName := ⟨RLW, "higher", "(LRollingBalls;IIII[J)I"⟩
def wsLW_higher : List Cond := .codeWith yLW_higher cLW_higher 7 (some .int) [(0, 14, 17, 13)] :: gT
abbrev cLW_hits : ByteArray := method_8_code
def yLW_hits : MethodName := ⟨RLW, "hits", "(LRollingBalls;II[J)I"⟩
def wsLW_hits : List Cond := .codeWith yLW_hits cLW_hits 5 (some .int) [(0, 10, 13, 13)] :: gT
abbrev cLW_safe : ByteArray := method_9_code
def yLW_safe : MethodName := ⟨RLW, "safe", "(LRollingBalls;I[J)I"⟩
def wsLW_safe : List Cond := .codeWith yLW_safe cLW_safe 4 (some .int) [(0, 9, 12, 13)] :: gT
abbrev cLW_cover : ByteArray := method_10_code
def yLW_cover : MethodName := ⟨RLW, "cover", "(LRollingBalls;II[J)I"⟩
def wsLW_cover : List Cond := .codeWith yLW_cover cLW_cover 5 (some .int) [(0, 10, 13, 13)] :: gT
abbrev cLW_may : ByteArray := method_11_code
def yLW_may : MethodName := ⟨RLW, "may", "(LRollingBalls;III[J)I"⟩
def wsLW_may : List Cond := .codeWith yLW_may cLW_may 6 (some .int) [(0, 12, 15, 13), (0, 12, 19, 42)] :: gT
abbrev cLW_want : ByteArray := method_12_code
def yLW_want : MethodName := ⟨RLW, "want", "(LRollingBalls;IIZ[J)I"⟩
def wsLW_want : List Cond := .codeWith yLW_want cLW_want 6 (some .int) [(0, 19, 22, 13)] :: gT
abbrev cJI_bitCount : ByteArray := prog_12_method_49_code
def yJI_bitCount : MethodName := ⟨RJI, "bitCount", "(I)I"⟩
def wsJI_bitCount : List Cond := .code yJI_bitCount cJI_bitCount 1 (some .int) :: gT
abbrev cJI_compare : ByteArray := prog_12_method_40_code
def yJI_compare : MethodName := ⟨RJI, "compare", "(II)I"⟩
def wsJI_compare : List Cond := .code yJI_compare cJI_compare 2 (some .int) :: gT
abbrev cJA_fill : ByteArray := prog_18_method_103_code
def yJA_fill : MethodName := ⟨RJA, "fill", "([II)V"⟩
def wsJA_fill : List Cond := .code yJA_fill cJA_fill 4 none :: gT
abbrev cLW_law : ByteArray := code
end
section
theorem wd0 : (.selects "RollingBalls$Ball" ⟨"RollingBalls$Ball", "placeIndex", "(II)I"⟩ ⟨"RollingBalls$Ball", "placeIndex", "(II)I"⟩ : Cond) ∈ gT := List.mem_filter.mpr ⟨List.mem_of_getElem? (i := 0) (by decide +kernel), (by decide +kernel)⟩
theorem we0 {c1 : Cond} : (.selects "RollingBalls$Ball" ⟨"RollingBalls$Ball", "placeIndex", "(II)I"⟩ ⟨"RollingBalls$Ball", "placeIndex", "(II)I"⟩ : Cond) ∈ c1 :: gT := List.mem_cons_of_mem _ wd0
theorem wd1 : (.selects "RollingBalls$Plan" ⟨"RollingBalls$Plan", "areWantedSafe", "()Z"⟩ ⟨"RollingBalls$Plan", "areWantedSafe", "()Z"⟩ : Cond) ∈ gT := List.mem_filter.mpr ⟨List.mem_of_getElem? (i := 1) (by decide +kernel), (by decide +kernel)⟩
theorem we1 {c1 : Cond} : (.selects "RollingBalls$Plan" ⟨"RollingBalls$Plan", "areWantedSafe", "()Z"⟩ ⟨"RollingBalls$Plan", "areWantedSafe", "()Z"⟩ : Cond) ∈ c1 :: gT := List.mem_cons_of_mem _ wd1
theorem wd2 : (.selects "RollingBalls$Plan" ⟨"RollingBalls$Plan", "listChoices", "()V"⟩ ⟨"RollingBalls$Plan", "listChoices", "()V"⟩ : Cond) ∈ gT := List.mem_filter.mpr ⟨List.mem_of_getElem? (i := 2) (by decide +kernel), (by decide +kernel)⟩
theorem we2 {c1 : Cond} : (.selects "RollingBalls$Plan" ⟨"RollingBalls$Plan", "listChoices", "()V"⟩ ⟨"RollingBalls$Plan", "listChoices", "()V"⟩ : Cond) ∈ c1 :: gT := List.mem_cons_of_mem _ wd2
theorem wd3 : (.selects "RollingBalls$Plan" ⟨"RollingBalls$Plan", "addChoice", "(III)V"⟩ ⟨"RollingBalls$Plan", "addChoice", "(III)V"⟩ : Cond) ∈ gT := List.mem_filter.mpr ⟨List.mem_of_getElem? (i := 3) (by decide +kernel), (by decide +kernel)⟩
theorem we3 {c1 : Cond} : (.selects "RollingBalls$Plan" ⟨"RollingBalls$Plan", "addChoice", "(III)V"⟩ ⟨"RollingBalls$Plan", "addChoice", "(III)V"⟩ : Cond) ∈ c1 :: gT := List.mem_cons_of_mem _ wd3
theorem wd4 : (.selects "RollingBalls$Plan" ⟨"RollingBalls$Plan", "countCandidates", "(II)I"⟩ ⟨"RollingBalls$Plan", "countCandidates", "(II)I"⟩ : Cond) ∈ gT := List.mem_filter.mpr ⟨List.mem_of_getElem? (i := 4) (by decide +kernel), (by decide +kernel)⟩
theorem we4 {c1 : Cond} : (.selects "RollingBalls$Plan" ⟨"RollingBalls$Plan", "countCandidates", "(II)I"⟩ ⟨"RollingBalls$Plan", "countCandidates", "(II)I"⟩ : Cond) ∈ c1 :: gT := List.mem_cons_of_mem _ wd4
theorem wd5 : (.selects "RollingBalls$Plan" ⟨"RollingBalls$Plan", "findLowTips", "()V"⟩ ⟨"RollingBalls$Plan", "findLowTips", "()V"⟩ : Cond) ∈ gT := List.mem_filter.mpr ⟨List.mem_of_getElem? (i := 5) (by decide +kernel), (by decide +kernel)⟩
theorem we5 {c1 : Cond} : (.selects "RollingBalls$Plan" ⟨"RollingBalls$Plan", "findLowTips", "()V"⟩ ⟨"RollingBalls$Plan", "findLowTips", "()V"⟩ : Cond) ∈ c1 :: gT := List.mem_cons_of_mem _ wd5
theorem wd6 : (.selects "RollingBalls$Plan" ⟨"RollingBalls$Plan", "isCandidate", "(I)Z"⟩ ⟨"RollingBalls$Plan", "isCandidate", "(I)Z"⟩ : Cond) ∈ gT := List.mem_filter.mpr ⟨List.mem_of_getElem? (i := 6) (by decide +kernel), (by decide +kernel)⟩
theorem we6 {c1 : Cond} : (.selects "RollingBalls$Plan" ⟨"RollingBalls$Plan", "isCandidate", "(I)Z"⟩ ⟨"RollingBalls$Plan", "isCandidate", "(I)Z"⟩ : Cond) ∈ c1 :: gT := List.mem_cons_of_mem _ wd6
theorem wd7 : (.selects "RollingBalls$Plan" ⟨"RollingBalls$Plan", "setsThatSave", "(II)I"⟩ ⟨"RollingBalls$Plan", "setsThatSave", "(II)I"⟩ : Cond) ∈ gT := List.mem_filter.mpr ⟨List.mem_of_getElem? (i := 7) (by decide +kernel), (by decide +kernel)⟩
theorem we7 {c1 : Cond} : (.selects "RollingBalls$Plan" ⟨"RollingBalls$Plan", "setsThatSave", "(II)I"⟩ ⟨"RollingBalls$Plan", "setsThatSave", "(II)I"⟩ : Cond) ∈ c1 :: gT := List.mem_cons_of_mem _ wd7
theorem wd8 : (.selects "RollingBalls$Plan" ⟨"RollingBalls$Plan", "setsThatCover", "(III)I"⟩ ⟨"RollingBalls$Plan", "setsThatCover", "(III)I"⟩ : Cond) ∈ gT := List.mem_filter.mpr ⟨List.mem_of_getElem? (i := 8) (by decide +kernel), (by decide +kernel)⟩
theorem we8 {c1 : Cond} : (.selects "RollingBalls$Plan" ⟨"RollingBalls$Plan", "setsThatCover", "(III)I"⟩ ⟨"RollingBalls$Plan", "setsThatCover", "(III)I"⟩ : Cond) ∈ c1 :: gT := List.mem_cons_of_mem _ wd8
theorem wd9 : (.selects "RollingBalls$Plan" ⟨"RollingBalls$Plan", "maySink", "(I)Z"⟩ ⟨"RollingBalls$Plan", "maySink", "(I)Z"⟩ : Cond) ∈ gT := List.mem_filter.mpr ⟨List.mem_of_getElem? (i := 9) (by decide +kernel), (by decide +kernel)⟩
theorem we9 {c1 : Cond} : (.selects "RollingBalls$Plan" ⟨"RollingBalls$Plan", "maySink", "(I)Z"⟩ ⟨"RollingBalls$Plan", "maySink", "(I)Z"⟩ : Cond) ∈ c1 :: gT := List.mem_cons_of_mem _ wd9
theorem wd10 : (.selects "RollingBalls$Plan" ⟨"RollingBalls$Plan", "lowRest", "(II)I"⟩ ⟨"RollingBalls$Plan", "lowRest", "(II)I"⟩ : Cond) ∈ gT := List.mem_filter.mpr ⟨List.mem_of_getElem? (i := 10) (by decide +kernel), (by decide +kernel)⟩
theorem we10 {c1 : Cond} : (.selects "RollingBalls$Plan" ⟨"RollingBalls$Plan", "lowRest", "(II)I"⟩ ⟨"RollingBalls$Plan", "lowRest", "(II)I"⟩ : Cond) ∈ c1 :: gT := List.mem_cons_of_mem _ wd10
theorem wd11 : (.selects "RollingBalls$Plan" ⟨"RollingBalls$Plan", "setsAbove", "(III)I"⟩ ⟨"RollingBalls$Plan", "setsAbove", "(III)I"⟩ : Cond) ∈ gT := List.mem_filter.mpr ⟨List.mem_of_getElem? (i := 11) (by decide +kernel), (by decide +kernel)⟩
theorem we11 {c1 : Cond} : (.selects "RollingBalls$Plan" ⟨"RollingBalls$Plan", "setsAbove", "(III)I"⟩ ⟨"RollingBalls$Plan", "setsAbove", "(III)I"⟩ : Cond) ∈ c1 :: gT := List.mem_cons_of_mem _ wd11
theorem wd12 : (.selects "RollingBalls$Plan" ⟨"RollingBalls$Plan", "setsThatFree", "(II)I"⟩ ⟨"RollingBalls$Plan", "setsThatFree", "(II)I"⟩ : Cond) ∈ gT := List.mem_filter.mpr ⟨List.mem_of_getElem? (i := 12) (by decide +kernel), (by decide +kernel)⟩
theorem we12 {c1 : Cond} : (.selects "RollingBalls$Plan" ⟨"RollingBalls$Plan", "setsThatFree", "(II)I"⟩ ⟨"RollingBalls$Plan", "setsThatFree", "(II)I"⟩ : Cond) ∈ c1 :: gT := List.mem_cons_of_mem _ wd12
theorem wd13 : (.selects "RollingBalls$Plan" ⟨"RollingBalls$Plan", "bestOf", "(I)I"⟩ ⟨"RollingBalls$Plan", "bestOf", "(I)I"⟩ : Cond) ∈ gT := List.mem_filter.mpr ⟨List.mem_of_getElem? (i := 13) (by decide +kernel), (by decide +kernel)⟩
theorem we13 {c1 : Cond} : (.selects "RollingBalls$Plan" ⟨"RollingBalls$Plan", "bestOf", "(I)I"⟩ ⟨"RollingBalls$Plan", "bestOf", "(I)I"⟩ : Cond) ∈ c1 :: gT := List.mem_cons_of_mem _ wd13
theorem wd14 : (.selects "RollingBalls$Plan" ⟨"RollingBalls$Plan", "isBetter", "(II)Z"⟩ ⟨"RollingBalls$Plan", "isBetter", "(II)Z"⟩ : Cond) ∈ gT := List.mem_filter.mpr ⟨List.mem_of_getElem? (i := 14) (by decide +kernel), (by decide +kernel)⟩
theorem we14 {c1 : Cond} : (.selects "RollingBalls$Plan" ⟨"RollingBalls$Plan", "isBetter", "(II)Z"⟩ ⟨"RollingBalls$Plan", "isBetter", "(II)Z"⟩ : Cond) ∈ c1 :: gT := List.mem_cons_of_mem _ wd14
theorem wd15 : (.selects "RollingBalls$Plan" ⟨"RollingBalls$Plan", "lengthOf", "(I)I"⟩ ⟨"RollingBalls$Plan", "lengthOf", "(I)I"⟩ : Cond) ∈ gT := List.mem_filter.mpr ⟨List.mem_of_getElem? (i := 15) (by decide +kernel), (by decide +kernel)⟩
theorem we15 {c1 : Cond} : (.selects "RollingBalls$Plan" ⟨"RollingBalls$Plan", "lengthOf", "(I)I"⟩ ⟨"RollingBalls$Plan", "lengthOf", "(I)I"⟩ : Cond) ∈ c1 :: gT := List.mem_cons_of_mem _ wd15
theorem wd16 : (.selects "RollingBalls$Plan" ⟨"RollingBalls$Plan", "setsBetterThan", "(II)I"⟩ ⟨"RollingBalls$Plan", "setsBetterThan", "(II)I"⟩ : Cond) ∈ gT := List.mem_filter.mpr ⟨List.mem_of_getElem? (i := 16) (by decide +kernel), (by decide +kernel)⟩
theorem we16 {c1 : Cond} : (.selects "RollingBalls$Plan" ⟨"RollingBalls$Plan", "setsBetterThan", "(II)I"⟩ ⟨"RollingBalls$Plan", "setsBetterThan", "(II)I"⟩ : Cond) ∈ c1 :: gT := List.mem_cons_of_mem _ wd16
theorem wd17 : (.selects "RollingBalls$Plan" ⟨"RollingBalls$Plan", "setsThatMayLower", "(II)I"⟩ ⟨"RollingBalls$Plan", "setsThatMayLower", "(II)I"⟩ : Cond) ∈ gT := List.mem_filter.mpr ⟨List.mem_of_getElem? (i := 17) (by decide +kernel), (by decide +kernel)⟩
theorem we17 {c1 : Cond} : (.selects "RollingBalls$Plan" ⟨"RollingBalls$Plan", "setsThatMayLower", "(II)I"⟩ ⟨"RollingBalls$Plan", "setsThatMayLower", "(II)I"⟩ : Cond) ∈ c1 :: gT := List.mem_cons_of_mem _ wd17
theorem wd18 : (.selects "RollingBalls$Plan" ⟨"RollingBalls$Plan", "isWantedListed", "()Z"⟩ ⟨"RollingBalls$Plan", "isWantedListed", "()Z"⟩ : Cond) ∈ gT := List.mem_filter.mpr ⟨List.mem_of_getElem? (i := 18) (by decide +kernel), (by decide +kernel)⟩
theorem we18 {c1 : Cond} : (.selects "RollingBalls$Plan" ⟨"RollingBalls$Plan", "isWantedListed", "()Z"⟩ ⟨"RollingBalls$Plan", "isWantedListed", "()Z"⟩ : Cond) ∈ c1 :: gT := List.mem_cons_of_mem _ wd18
theorem wd19 : (.selects "RollingBalls" ⟨"RollingBalls", "putRod", "(II)V"⟩ ⟨"RollingBalls", "putRod", "(II)V"⟩ : Cond) ∈ gT := List.mem_filter.mpr ⟨List.mem_of_getElem? (i := 19) (by decide +kernel), (by decide +kernel)⟩
theorem we19 {c1 : Cond} : (.selects "RollingBalls" ⟨"RollingBalls", "putRod", "(II)V"⟩ ⟨"RollingBalls", "putRod", "(II)V"⟩ : Cond) ∈ c1 :: gT := List.mem_cons_of_mem _ wd19
theorem wd20 : (.selects "RollingBalls$Ball" ⟨"RollingBalls$Ball", "raiseTip", "(II)V"⟩ ⟨"RollingBalls$Ball", "raiseTip", "(II)V"⟩ : Cond) ∈ gT := List.mem_filter.mpr ⟨List.mem_of_getElem? (i := 20) (by decide +kernel), (by decide +kernel)⟩
theorem we20 {c1 : Cond} : (.selects "RollingBalls$Ball" ⟨"RollingBalls$Ball", "raiseTip", "(II)V"⟩ ⟨"RollingBalls$Ball", "raiseTip", "(II)V"⟩ : Cond) ∈ c1 :: gT := List.mem_cons_of_mem _ wd20
theorem wd21 : (.selects "RollingBalls$Ball" ⟨"RollingBalls$Ball", "leave", "(III)V"⟩ ⟨"RollingBalls$Ball", "leave", "(III)V"⟩ : Cond) ∈ gT := List.mem_filter.mpr ⟨List.mem_of_getElem? (i := 21) (by decide +kernel), (by decide +kernel)⟩
theorem we21 {c1 : Cond} : (.selects "RollingBalls$Ball" ⟨"RollingBalls$Ball", "leave", "(III)V"⟩ ⟨"RollingBalls$Ball", "leave", "(III)V"⟩ : Cond) ∈ c1 :: gT := List.mem_cons_of_mem _ wd21
theorem wd22 : (.selects "RollingBalls$Ball" ⟨"RollingBalls$Ball", "countListed", "(I)V"⟩ ⟨"RollingBalls$Ball", "countListed", "(I)V"⟩ : Cond) ∈ gT := List.mem_filter.mpr ⟨List.mem_of_getElem? (i := 22) (by decide +kernel), (by decide +kernel)⟩
theorem we22 {c1 : Cond} : (.selects "RollingBalls$Ball" ⟨"RollingBalls$Ball", "countListed", "(I)V"⟩ ⟨"RollingBalls$Ball", "countListed", "(I)V"⟩ : Cond) ∈ c1 :: gT := List.mem_cons_of_mem _ wd22
theorem wd23 : (.selects "RollingBalls$Ball" ⟨"RollingBalls$Ball", "lowerTip", "(II)V"⟩ ⟨"RollingBalls$Ball", "lowerTip", "(II)V"⟩ : Cond) ∈ gT := List.mem_filter.mpr ⟨List.mem_of_getElem? (i := 23) (by decide +kernel), (by decide +kernel)⟩
theorem we23 {c1 : Cond} : (.selects "RollingBalls$Ball" ⟨"RollingBalls$Ball", "lowerTip", "(II)V"⟩ ⟨"RollingBalls$Ball", "lowerTip", "(II)V"⟩ : Cond) ∈ c1 :: gT := List.mem_cons_of_mem _ wd23
theorem wd24 : (.selects "RollingBalls$Ball" ⟨"RollingBalls$Ball", "settle", "(III)V"⟩ ⟨"RollingBalls$Ball", "settle", "(III)V"⟩ : Cond) ∈ gT := List.mem_filter.mpr ⟨List.mem_of_getElem? (i := 24) (by decide +kernel), (by decide +kernel)⟩
theorem we24 {c1 : Cond} : (.selects "RollingBalls$Ball" ⟨"RollingBalls$Ball", "settle", "(III)V"⟩ ⟨"RollingBalls$Ball", "settle", "(III)V"⟩ : Cond) ∈ c1 :: gT := List.mem_cons_of_mem _ wd24
theorem wd25 : (.selects "RollingBalls" ⟨"RollingBalls", "pointAt", "(II)I"⟩ ⟨"RollingBalls", "pointAt", "(II)I"⟩ : Cond) ∈ gT := List.mem_filter.mpr ⟨List.mem_of_getElem? (i := 25) (by decide +kernel), (by decide +kernel)⟩
theorem we25 {c1 : Cond} : (.selects "RollingBalls" ⟨"RollingBalls", "pointAt", "(II)I"⟩ ⟨"RollingBalls", "pointAt", "(II)I"⟩ : Cond) ∈ c1 :: gT := List.mem_cons_of_mem _ wd25
theorem wd26 : (.selects "java/lang/Throwable" ⟨"java/lang/Throwable", "fillInStackTrace", "(I)Ljava/lang/Throwable;"⟩ ⟨"java/lang/Throwable", "fillInStackTrace", "(I)Ljava/lang/Throwable;"⟩ : Cond) ∈ gT := List.mem_filter.mpr ⟨List.mem_of_getElem? (i := 26) (by decide +kernel), (by decide +kernel)⟩
theorem we26 {c1 : Cond} : (.selects "java/lang/Throwable" ⟨"java/lang/Throwable", "fillInStackTrace", "(I)Ljava/lang/Throwable;"⟩ ⟨"java/lang/Throwable", "fillInStackTrace", "(I)Ljava/lang/Throwable;"⟩ : Cond) ∈ c1 :: gT := List.mem_cons_of_mem _ wd26
theorem wd27 : (.selects "RollingBalls" ⟨"RollingBalls", "needPlace", "(II)V"⟩ ⟨"RollingBalls", "needPlace", "(II)V"⟩ : Cond) ∈ gT := List.mem_filter.mpr ⟨List.mem_of_getElem? (i := 27) (by decide +kernel), (by decide +kernel)⟩
theorem we27 {c1 : Cond} : (.selects "RollingBalls" ⟨"RollingBalls", "needPlace", "(II)V"⟩ ⟨"RollingBalls", "needPlace", "(II)V"⟩ : Cond) ∈ c1 :: gT := List.mem_cons_of_mem _ wd27
theorem wd28 : (.selects "RollingBalls" ⟨"RollingBalls", "numberOf", "(I)I"⟩ ⟨"RollingBalls", "numberOf", "(I)I"⟩ : Cond) ∈ gT := List.mem_filter.mpr ⟨List.mem_of_getElem? (i := 28) (by decide +kernel), (by decide +kernel)⟩
theorem we28 {c1 : Cond} : (.selects "RollingBalls" ⟨"RollingBalls", "numberOf", "(I)I"⟩ ⟨"RollingBalls", "numberOf", "(I)I"⟩ : Cond) ∈ c1 :: gT := List.mem_cons_of_mem _ wd28
theorem wd29 : (.selects "RollingBallsModel" ⟨"RollingBallsModel", "isPoint", "(II)Z"⟩ ⟨"RollingBallsModel", "isPoint", "(II)Z"⟩ : Cond) ∈ gT := List.mem_filter.mpr ⟨List.mem_of_getElem? (i := 29) (by decide +kernel), (by decide +kernel)⟩
theorem we29 {c1 : Cond} : (.selects "RollingBallsModel" ⟨"RollingBallsModel", "isPoint", "(II)Z"⟩ ⟨"RollingBallsModel", "isPoint", "(II)Z"⟩ : Cond) ∈ c1 :: gT := List.mem_cons_of_mem _ wd29
theorem wd30 : (.selects "RollingBallsModel" ⟨"RollingBallsModel", "isPlace", "(II)Z"⟩ ⟨"RollingBallsModel", "isPlace", "(II)Z"⟩ : Cond) ∈ gT := List.mem_filter.mpr ⟨List.mem_of_getElem? (i := 30) (by decide +kernel), (by decide +kernel)⟩
theorem we30 {c1 : Cond} : (.selects "RollingBallsModel" ⟨"RollingBallsModel", "isPlace", "(II)Z"⟩ ⟨"RollingBallsModel", "isPlace", "(II)Z"⟩ : Cond) ∈ c1 :: gT := List.mem_cons_of_mem _ wd30
theorem wd31 : (.selects "RollingBallsModel" ⟨"RollingBallsModel", "stand", "()V"⟩ ⟨"RollingBallsModel", "stand", "()V"⟩ : Cond) ∈ gT := List.mem_filter.mpr ⟨List.mem_of_getElem? (i := 31) (by decide +kernel), (by decide +kernel)⟩
theorem we31 {c1 : Cond} : (.selects "RollingBallsModel" ⟨"RollingBallsModel", "stand", "()V"⟩ ⟨"RollingBallsModel", "stand", "()V"⟩ : Cond) ∈ c1 :: gT := List.mem_cons_of_mem _ wd31
theorem wd32 : (.selects "RollingBallsModel" ⟨"RollingBallsModel", "restAt", "(II)V"⟩ ⟨"RollingBallsModel", "restAt", "(II)V"⟩ : Cond) ∈ gT := List.mem_filter.mpr ⟨List.mem_of_getElem? (i := 32) (by decide +kernel), (by decide +kernel)⟩
theorem we32 {c1 : Cond} : (.selects "RollingBallsModel" ⟨"RollingBallsModel", "restAt", "(II)V"⟩ ⟨"RollingBallsModel", "restAt", "(II)V"⟩ : Cond) ∈ c1 :: gT := List.mem_cons_of_mem _ wd32
theorem wd33 : (.selects "RollingBallsModel" ⟨"RollingBallsModel", "placeAt", "(II)I"⟩ ⟨"RollingBallsModel", "placeAt", "(II)I"⟩ : Cond) ∈ gT := List.mem_filter.mpr ⟨List.mem_of_getElem? (i := 33) (by decide +kernel), (by decide +kernel)⟩
theorem we33 {c1 : Cond} : (.selects "RollingBallsModel" ⟨"RollingBallsModel", "placeAt", "(II)I"⟩ ⟨"RollingBallsModel", "placeAt", "(II)I"⟩ : Cond) ∈ c1 :: gT := List.mem_cons_of_mem _ wd33
theorem wd34 : (.selects "RollingBallsModel" ⟨"RollingBallsModel", "across", "()I"⟩ ⟨"RollingBallsModel", "across", "()I"⟩ : Cond) ∈ gT := List.mem_filter.mpr ⟨List.mem_of_getElem? (i := 34) (by decide +kernel), (by decide +kernel)⟩
theorem we34 {c1 : Cond} : (.selects "RollingBallsModel" ⟨"RollingBallsModel", "across", "()I"⟩ ⟨"RollingBallsModel", "across", "()I"⟩ : Cond) ∈ c1 :: gT := List.mem_cons_of_mem _ wd34
theorem wd35 : (.selects "RollingBallsModel" ⟨"RollingBallsModel", "isNear", "(III)Z"⟩ ⟨"RollingBallsModel", "isNear", "(III)Z"⟩ : Cond) ∈ gT := List.mem_filter.mpr ⟨List.mem_of_getElem? (i := 35) (by decide +kernel), (by decide +kernel)⟩
theorem we35 {c1 : Cond} : (.selects "RollingBallsModel" ⟨"RollingBallsModel", "isNear", "(III)Z"⟩ ⟨"RollingBallsModel", "isNear", "(III)Z"⟩ : Cond) ∈ c1 :: gT := List.mem_cons_of_mem _ wd35
theorem wd36 : (.selects "RollingBallsModel" ⟨"RollingBallsModel", "distance", "(III)I"⟩ ⟨"RollingBallsModel", "distance", "(III)I"⟩ : Cond) ∈ gT := List.mem_filter.mpr ⟨List.mem_of_getElem? (i := 36) (by decide +kernel), (by decide +kernel)⟩
theorem we36 {c1 : Cond} : (.selects "RollingBallsModel" ⟨"RollingBallsModel", "distance", "(III)I"⟩ ⟨"RollingBallsModel", "distance", "(III)I"⟩ : Cond) ∈ c1 :: gT := List.mem_cons_of_mem _ wd36
theorem wd37 : (.selects "RollingBallsModel" ⟨"RollingBallsModel", "isTouched", "(III)Z"⟩ ⟨"RollingBallsModel", "isTouched", "(III)Z"⟩ : Cond) ∈ gT := List.mem_filter.mpr ⟨List.mem_of_getElem? (i := 37) (by decide +kernel), (by decide +kernel)⟩
theorem we37 {c1 : Cond} : (.selects "RollingBallsModel" ⟨"RollingBallsModel", "isTouched", "(III)Z"⟩ ⟨"RollingBallsModel", "isTouched", "(III)Z"⟩ : Cond) ∈ c1 :: gT := List.mem_cons_of_mem _ wd37
theorem wd38 : (.selects "RollingBallsModel" ⟨"RollingBallsModel", "roll", "()V"⟩ ⟨"RollingBallsModel", "roll", "()V"⟩ : Cond) ∈ gT := List.mem_filter.mpr ⟨List.mem_of_getElem? (i := 38) (by decide +kernel), (by decide +kernel)⟩
theorem we38 {c1 : Cond} : (.selects "RollingBallsModel" ⟨"RollingBallsModel", "roll", "()V"⟩ ⟨"RollingBallsModel", "roll", "()V"⟩ : Cond) ∈ c1 :: gT := List.mem_cons_of_mem _ wd38
theorem wd39 : (.selects "RollingBallsModel" ⟨"RollingBallsModel", "places", "()I"⟩ ⟨"RollingBallsModel", "places", "()I"⟩ : Cond) ∈ gT := List.mem_filter.mpr ⟨List.mem_of_getElem? (i := 39) (by decide +kernel), (by decide +kernel)⟩
theorem we39 {c1 : Cond} : (.selects "RollingBallsModel" ⟨"RollingBallsModel", "places", "()I"⟩ ⟨"RollingBallsModel", "places", "()I"⟩ : Cond) ∈ c1 :: gT := List.mem_cons_of_mem _ wd39
theorem wd40 : (.selects "RollingBallsModel" ⟨"RollingBallsModel", "isSafe", "(I)Z"⟩ ⟨"RollingBallsModel", "isSafe", "(I)Z"⟩ : Cond) ∈ gT := List.mem_filter.mpr ⟨List.mem_of_getElem? (i := 40) (by decide +kernel), (by decide +kernel)⟩
theorem we40 {c1 : Cond} : (.selects "RollingBallsModel" ⟨"RollingBallsModel", "isSafe", "(I)Z"⟩ ⟨"RollingBallsModel", "isSafe", "(I)Z"⟩ : Cond) ∈ c1 :: gT := List.mem_cons_of_mem _ wd40
theorem wd41 : (.selects "RollingBallsModel" ⟨"RollingBallsModel", "manyOf", "(I)I"⟩ ⟨"RollingBallsModel", "manyOf", "(I)I"⟩ : Cond) ∈ gT := List.mem_filter.mpr ⟨List.mem_of_getElem? (i := 41) (by decide +kernel), (by decide +kernel)⟩
theorem we41 {c1 : Cond} : (.selects "RollingBallsModel" ⟨"RollingBallsModel", "manyOf", "(I)I"⟩ ⟨"RollingBallsModel", "manyOf", "(I)I"⟩ : Cond) ∈ c1 :: gT := List.mem_cons_of_mem _ wd41
theorem wd42 : (.selects "RollingBallsModel" ⟨"RollingBallsModel", "lengthOf", "(I)I"⟩ ⟨"RollingBallsModel", "lengthOf", "(I)I"⟩ : Cond) ∈ gT := List.mem_filter.mpr ⟨List.mem_of_getElem? (i := 42) (by decide +kernel), (by decide +kernel)⟩
theorem we42 {c1 : Cond} : (.selects "RollingBallsModel" ⟨"RollingBallsModel", "lengthOf", "(I)I"⟩ ⟨"RollingBallsModel", "lengthOf", "(I)I"⟩ : Cond) ∈ c1 :: gT := List.mem_cons_of_mem _ wd42
theorem wd43 : (.selects "RollingBallsModel" ⟨"RollingBallsModel", "does", "(I)Z"⟩ ⟨"RollingBallsModel", "does", "(I)Z"⟩ : Cond) ∈ gT := List.mem_filter.mpr ⟨List.mem_of_getElem? (i := 43) (by decide +kernel), (by decide +kernel)⟩
theorem we43 {c1 : Cond} : (.selects "RollingBallsModel" ⟨"RollingBallsModel", "does", "(I)Z"⟩ ⟨"RollingBallsModel", "does", "(I)Z"⟩ : Cond) ∈ c1 :: gT := List.mem_cons_of_mem _ wd43
theorem wd44 : (.initialized "RollingBallsLaw" : Cond) ∈ gT := List.mem_filter.mpr ⟨List.mem_of_getElem? (i := 44) (by decide +kernel), (by decide +kernel)⟩
theorem we44 {c1 : Cond} : (.initialized "RollingBallsLaw" : Cond) ∈ c1 :: gT := List.mem_cons_of_mem _ wd44
theorem wd45 : (.initialized "RollingBalls" : Cond) ∈ gT := List.mem_filter.mpr ⟨List.mem_of_getElem? (i := 45) (by decide +kernel), (by decide +kernel)⟩
theorem we45 {c1 : Cond} : (.initialized "RollingBalls" : Cond) ∈ c1 :: gT := List.mem_cons_of_mem _ wd45
theorem wd46 : (.initialized "java/lang/Math" : Cond) ∈ gT := List.mem_filter.mpr ⟨List.mem_of_getElem? (i := 46) (by decide +kernel), (by decide +kernel)⟩
theorem we46 {c1 : Cond} : (.initialized "java/lang/Math" : Cond) ∈ c1 :: gT := List.mem_cons_of_mem _ wd46
theorem wd47 : (.initialized "RollingBalls$House" : Cond) ∈ gT := List.mem_filter.mpr ⟨List.mem_of_getElem? (i := 47) (by decide +kernel), (by decide +kernel)⟩
theorem we47 {c1 : Cond} : (.initialized "RollingBalls$House" : Cond) ∈ c1 :: gT := List.mem_cons_of_mem _ wd47
theorem wd48 : (.initialized "RollingBalls$Ball" : Cond) ∈ gT := List.mem_filter.mpr ⟨List.mem_of_getElem? (i := 48) (by decide +kernel), (by decide +kernel)⟩
theorem we48 {c1 : Cond} : (.initialized "RollingBalls$Ball" : Cond) ∈ c1 :: gT := List.mem_cons_of_mem _ wd48
theorem wd49 : (.initialized "RollingBalls$Shadow" : Cond) ∈ gT := List.mem_filter.mpr ⟨List.mem_of_getElem? (i := 49) (by decide +kernel), (by decide +kernel)⟩
theorem we49 {c1 : Cond} : (.initialized "RollingBalls$Shadow" : Cond) ∈ c1 :: gT := List.mem_cons_of_mem _ wd49
theorem wd50 : (.initialized "RollingBalls$Level" : Cond) ∈ gT := List.mem_filter.mpr ⟨List.mem_of_getElem? (i := 50) (by decide +kernel), (by decide +kernel)⟩
theorem we50 {c1 : Cond} : (.initialized "RollingBalls$Level" : Cond) ∈ c1 :: gT := List.mem_cons_of_mem _ wd50
theorem wd51 : (.initialized "java/util/Arrays" : Cond) ∈ gT := List.mem_filter.mpr ⟨List.mem_of_getElem? (i := 51) (by decide +kernel), (by decide +kernel)⟩
theorem we51 {c1 : Cond} : (.initialized "java/util/Arrays" : Cond) ∈ c1 :: gT := List.mem_cons_of_mem _ wd51
theorem wd52 : (.initialized "RollingBalls$Plan" : Cond) ∈ gT := List.mem_filter.mpr ⟨List.mem_of_getElem? (i := 52) (by decide +kernel), (by decide +kernel)⟩
theorem we52 {c1 : Cond} : (.initialized "RollingBalls$Plan" : Cond) ∈ c1 :: gT := List.mem_cons_of_mem _ wd52
theorem wd53 : (.initialized "RollingBallsModel" : Cond) ∈ gT := List.mem_filter.mpr ⟨List.mem_of_getElem? (i := 53) (by decide +kernel), (by decide +kernel)⟩
theorem we53 {c1 : Cond} : (.initialized "RollingBallsModel" : Cond) ∈ c1 :: gT := List.mem_cons_of_mem _ wd53
theorem wd54 : (.initialized "java/lang/Throwable" : Cond) ∈ gT := List.mem_filter.mpr ⟨List.mem_of_getElem? (i := 54) (by decide +kernel), (by decide +kernel)⟩
theorem we54 {c1 : Cond} : (.initialized "java/lang/Throwable" : Cond) ∈ c1 :: gT := List.mem_cons_of_mem _ wd54
theorem wd55 : (.initialized "java/lang/Exception" : Cond) ∈ gT := List.mem_filter.mpr ⟨List.mem_of_getElem? (i := 55) (by decide +kernel), (by decide +kernel)⟩
theorem we55 {c1 : Cond} : (.initialized "java/lang/Exception" : Cond) ∈ c1 :: gT := List.mem_cons_of_mem _ wd55
theorem wd56 : (.initialized "java/lang/RuntimeException" : Cond) ∈ gT := List.mem_filter.mpr ⟨List.mem_of_getElem? (i := 56) (by decide +kernel), (by decide +kernel)⟩
theorem we56 {c1 : Cond} : (.initialized "java/lang/RuntimeException" : Cond) ∈ c1 :: gT := List.mem_cons_of_mem _ wd56
theorem wd57 : (.initialized "java/lang/IllegalArgumentException" : Cond) ∈ gT := List.mem_filter.mpr ⟨List.mem_of_getElem? (i := 57) (by decide +kernel), (by decide +kernel)⟩
theorem we57 {c1 : Cond} : (.initialized "java/lang/IllegalArgumentException" : Cond) ∈ c1 :: gT := List.mem_cons_of_mem _ wd57
theorem wd58 : (.initialized "java/lang/Integer" : Cond) ∈ gT := List.mem_filter.mpr ⟨List.mem_of_getElem? (i := 58) (by decide +kernel), (by decide +kernel)⟩
theorem we58 {c1 : Cond} : (.initialized "java/lang/Integer" : Cond) ∈ c1 :: gT := List.mem_cons_of_mem _ wd58
theorem wd59 : (.initialized "java/lang/IllegalStateException" : Cond) ∈ gT := List.mem_filter.mpr ⟨List.mem_of_getElem? (i := 59) (by decide +kernel), (by decide +kernel)⟩
theorem we59 {c1 : Cond} : (.initialized "java/lang/IllegalStateException" : Cond) ∈ c1 :: gT := List.mem_cons_of_mem _ wd59
theorem wd60 : (.initialized "java/lang/System" : Cond) ∈ gT := List.mem_filter.mpr ⟨List.mem_of_getElem? (i := 60) (by decide +kernel), (by decide +kernel)⟩
theorem we60 {c1 : Cond} : (.initialized "java/lang/System" : Cond) ∈ c1 :: gT := List.mem_cons_of_mem _ wd60
theorem wd61 : (.classLink "RollingBallsLaw" 8 "RollingBalls" : Cond) ∈ gT := List.mem_filter.mpr ⟨List.mem_of_getElem? (i := 61) (by decide +kernel), (by decide +kernel)⟩
theorem we61 {c1 : Cond} : (.classLink "RollingBallsLaw" 8 "RollingBalls" : Cond) ∈ c1 :: gT := List.mem_cons_of_mem _ wd61
theorem wd62 : (.instantiable "RollingBalls" 7 : Cond) ∈ gT := List.mem_filter.mpr ⟨List.mem_of_getElem? (i := 62) (by decide +kernel), (by decide +kernel)⟩
theorem we62 {c1 : Cond} : (.instantiable "RollingBalls" 7 : Cond) ∈ c1 :: gT := List.mem_cons_of_mem _ wd62
theorem wd63 : (.methodLink "RollingBallsLaw" 54 ⟨"RollingBalls", "<init>", "(III)V"⟩ : Cond) ∈ gT := List.mem_filter.mpr ⟨List.mem_of_getElem? (i := 63) (by decide +kernel), (by decide +kernel)⟩
theorem we63 {c1 : Cond} : (.methodLink "RollingBallsLaw" 54 ⟨"RollingBalls", "<init>", "(III)V"⟩ : Cond) ∈ c1 :: gT := List.mem_cons_of_mem _ wd63
theorem wd64 : (.instanceMethod ⟨"RollingBalls", "<init>", "(III)V"⟩ : Cond) ∈ gT := List.mem_filter.mpr ⟨List.mem_of_getElem? (i := 64) (by decide +kernel), (by decide +kernel)⟩
theorem we64 {c1 : Cond} : (.instanceMethod ⟨"RollingBalls", "<init>", "(III)V"⟩ : Cond) ∈ c1 :: gT := List.mem_cons_of_mem _ wd64
theorem wd65 : (.code ⟨"RollingBalls", "<init>", "(III)V"⟩ prog_1_method_1_code 4 none : Cond) ∈ gT := List.mem_filter.mpr ⟨List.mem_of_getElem? (i := 65) (by decide +kernel), (by decide +kernel)⟩
theorem we65 {c1 : Cond} : (.code ⟨"RollingBalls", "<init>", "(III)V"⟩ prog_1_method_1_code 4 none : Cond) ∈ c1 :: gT := List.mem_cons_of_mem _ wd65
theorem wd66 : (.methodLink "RollingBalls" 1 ⟨"java/lang/Object", "<init>", "()V"⟩ : Cond) ∈ gT := List.mem_filter.mpr ⟨List.mem_of_getElem? (i := 66) (by decide +kernel), (by decide +kernel)⟩
theorem we66 {c1 : Cond} : (.methodLink "RollingBalls" 1 ⟨"java/lang/Object", "<init>", "()V"⟩ : Cond) ∈ c1 :: gT := List.mem_cons_of_mem _ wd66
theorem wd67 : (.instanceMethod ⟨"java/lang/Object", "<init>", "()V"⟩ : Cond) ∈ gT := List.mem_filter.mpr ⟨List.mem_of_getElem? (i := 67) (by decide +kernel), (by decide +kernel)⟩
theorem we67 {c1 : Cond} : (.instanceMethod ⟨"java/lang/Object", "<init>", "()V"⟩ : Cond) ∈ c1 :: gT := List.mem_cons_of_mem _ wd67
theorem wd68 : (.code ⟨"java/lang/Object", "<init>", "()V"⟩ object_method_1_code 1 none : Cond) ∈ gT := List.mem_filter.mpr ⟨List.mem_of_getElem? (i := 68) (by decide +kernel), (by decide +kernel)⟩
theorem we68 {c1 : Cond} : (.code ⟨"java/lang/Object", "<init>", "()V"⟩ object_method_1_code 1 none : Cond) ∈ c1 :: gT := List.mem_cons_of_mem _ wd68
theorem wd69 : (.methodLink "RollingBalls" 9 ⟨"RollingBalls", "between", "(III)I"⟩ : Cond) ∈ gT := List.mem_filter.mpr ⟨List.mem_of_getElem? (i := 69) (by decide +kernel), (by decide +kernel)⟩
theorem we69 {c1 : Cond} : (.methodLink "RollingBalls" 9 ⟨"RollingBalls", "between", "(III)I"⟩ : Cond) ∈ c1 :: gT := List.mem_cons_of_mem _ wd69
theorem wd70 : (.static ⟨"RollingBalls", "between", "(III)I"⟩ : Cond) ∈ gT := List.mem_filter.mpr ⟨List.mem_of_getElem? (i := 70) (by decide +kernel), (by decide +kernel)⟩
theorem we70 {c1 : Cond} : (.static ⟨"RollingBalls", "between", "(III)I"⟩ : Cond) ∈ c1 :: gT := List.mem_cons_of_mem _ wd70
theorem wd71 : (.code ⟨"RollingBalls", "between", "(III)I"⟩ prog_1_method_22_code 3 (some .int) : Cond) ∈ gT := List.mem_filter.mpr ⟨List.mem_of_getElem? (i := 71) (by decide +kernel), (by decide +kernel)⟩
theorem we71 {c1 : Cond} : (.code ⟨"RollingBalls", "between", "(III)I"⟩ prog_1_method_22_code 3 (some .int) : Cond) ∈ c1 :: gT := List.mem_cons_of_mem _ wd71
theorem wd72 : (.methodLink "RollingBalls" 185 ⟨"java/lang/Math", "min", "(II)I"⟩ : Cond) ∈ gT := List.mem_filter.mpr ⟨List.mem_of_getElem? (i := 72) (by decide +kernel), (by decide +kernel)⟩
theorem we72 {c1 : Cond} : (.methodLink "RollingBalls" 185 ⟨"java/lang/Math", "min", "(II)I"⟩ : Cond) ∈ c1 :: gT := List.mem_cons_of_mem _ wd72
theorem wd73 : (.static ⟨"java/lang/Math", "min", "(II)I"⟩ : Cond) ∈ gT := List.mem_filter.mpr ⟨List.mem_of_getElem? (i := 73) (by decide +kernel), (by decide +kernel)⟩
theorem we73 {c1 : Cond} : (.static ⟨"java/lang/Math", "min", "(II)I"⟩ : Cond) ∈ c1 :: gT := List.mem_cons_of_mem _ wd73
theorem wd74 : (.code ⟨"java/lang/Math", "min", "(II)I"⟩ prog_13_method_69_code 2 (some .int) : Cond) ∈ gT := List.mem_filter.mpr ⟨List.mem_of_getElem? (i := 74) (by decide +kernel), (by decide +kernel)⟩
theorem we74 {c1 : Cond} : (.code ⟨"java/lang/Math", "min", "(II)I"⟩ prog_13_method_69_code 2 (some .int) : Cond) ∈ c1 :: gT := List.mem_cons_of_mem _ wd74
theorem wd75 : (.methodLink "RollingBalls" 190 ⟨"java/lang/Math", "max", "(II)I"⟩ : Cond) ∈ gT := List.mem_filter.mpr ⟨List.mem_of_getElem? (i := 75) (by decide +kernel), (by decide +kernel)⟩
theorem we75 {c1 : Cond} : (.methodLink "RollingBalls" 190 ⟨"java/lang/Math", "max", "(II)I"⟩ : Cond) ∈ c1 :: gT := List.mem_cons_of_mem _ wd75
theorem wd76 : (.static ⟨"java/lang/Math", "max", "(II)I"⟩ : Cond) ∈ gT := List.mem_filter.mpr ⟨List.mem_of_getElem? (i := 76) (by decide +kernel), (by decide +kernel)⟩
theorem we76 {c1 : Cond} : (.static ⟨"java/lang/Math", "max", "(II)I"⟩ : Cond) ∈ c1 :: gT := List.mem_cons_of_mem _ wd76
theorem wd77 : (.code ⟨"java/lang/Math", "max", "(II)I"⟩ prog_13_method_65_code 2 (some .int) : Cond) ∈ gT := List.mem_filter.mpr ⟨List.mem_of_getElem? (i := 77) (by decide +kernel), (by decide +kernel)⟩
theorem we77 {c1 : Cond} : (.code ⟨"java/lang/Math", "max", "(II)I"⟩ prog_13_method_65_code 2 (some .int) : Cond) ∈ c1 :: gT := List.mem_cons_of_mem _ wd77
theorem wd78 : (.classLink "RollingBalls" 23 "RollingBalls$House" : Cond) ∈ gT := List.mem_filter.mpr ⟨List.mem_of_getElem? (i := 78) (by decide +kernel), (by decide +kernel)⟩
theorem we78 {c1 : Cond} : (.classLink "RollingBalls" 23 "RollingBalls$House" : Cond) ∈ c1 :: gT := List.mem_cons_of_mem _ wd78
theorem wd79 : (.instantiable "RollingBalls$House" 9 : Cond) ∈ gT := List.mem_filter.mpr ⟨List.mem_of_getElem? (i := 79) (by decide +kernel), (by decide +kernel)⟩
theorem we79 {c1 : Cond} : (.instantiable "RollingBalls$House" 9 : Cond) ∈ c1 :: gT := List.mem_cons_of_mem _ wd79
theorem wd80 : (.methodLink "RollingBalls" 25 ⟨"RollingBalls$House", "<init>", "(II)V"⟩ : Cond) ∈ gT := List.mem_filter.mpr ⟨List.mem_of_getElem? (i := 80) (by decide +kernel), (by decide +kernel)⟩
theorem we80 {c1 : Cond} : (.methodLink "RollingBalls" 25 ⟨"RollingBalls$House", "<init>", "(II)V"⟩ : Cond) ∈ c1 :: gT := List.mem_cons_of_mem _ wd80
theorem wd81 : (.instanceMethod ⟨"RollingBalls$House", "<init>", "(II)V"⟩ : Cond) ∈ gT := List.mem_filter.mpr ⟨List.mem_of_getElem? (i := 81) (by decide +kernel), (by decide +kernel)⟩
theorem we81 {c1 : Cond} : (.instanceMethod ⟨"RollingBalls$House", "<init>", "(II)V"⟩ : Cond) ∈ c1 :: gT := List.mem_cons_of_mem _ wd81
theorem wd82 : (.code ⟨"RollingBalls$House", "<init>", "(II)V"⟩ prog_3_method_1_code 5 none : Cond) ∈ gT := List.mem_filter.mpr ⟨List.mem_of_getElem? (i := 82) (by decide +kernel), (by decide +kernel)⟩
theorem we82 {c1 : Cond} : (.code ⟨"RollingBalls$House", "<init>", "(II)V"⟩ prog_3_method_1_code 5 none : Cond) ∈ c1 :: gT := List.mem_cons_of_mem _ wd82
theorem wd83 : (.methodLink "RollingBalls$House" 1 ⟨"java/lang/Object", "<init>", "()V"⟩ : Cond) ∈ gT := List.mem_filter.mpr ⟨List.mem_of_getElem? (i := 83) (by decide +kernel), (by decide +kernel)⟩
theorem we83 {c1 : Cond} : (.methodLink "RollingBalls$House" 1 ⟨"java/lang/Object", "<init>", "()V"⟩ : Cond) ∈ c1 :: gT := List.mem_cons_of_mem _ wd83
theorem wd84 : (.fieldLink "RollingBalls$House" 7 "RollingBalls$House" "w" "I" : Cond) ∈ gT := List.mem_filter.mpr ⟨List.mem_of_getElem? (i := 84) (by decide +kernel), (by decide +kernel)⟩
theorem we84 {c1 : Cond} : (.fieldLink "RollingBalls$House" 7 "RollingBalls$House" "w" "I" : Cond) ∈ c1 :: gT := List.mem_cons_of_mem _ wd84
theorem wd85 : (.fieldLink "RollingBalls$Ball" 28 "RollingBalls$House" "w" "I" : Cond) ∈ gT := List.mem_filter.mpr ⟨List.mem_of_getElem? (i := 85) (by decide +kernel), (by decide +kernel)⟩
theorem we85 {c1 : Cond} : (.fieldLink "RollingBalls$Ball" 28 "RollingBalls$House" "w" "I" : Cond) ∈ c1 :: gT := List.mem_cons_of_mem _ wd85
theorem wd86 : (.fieldLink "RollingBalls$House" 13 "RollingBalls$House" "d" "I" : Cond) ∈ gT := List.mem_filter.mpr ⟨List.mem_of_getElem? (i := 86) (by decide +kernel), (by decide +kernel)⟩
theorem we86 {c1 : Cond} : (.fieldLink "RollingBalls$House" 13 "RollingBalls$House" "d" "I" : Cond) ∈ c1 :: gT := List.mem_cons_of_mem _ wd86
theorem wd87 : (.fieldLink "RollingBalls$Ball" 58 "RollingBalls$House" "d" "I" : Cond) ∈ gT := List.mem_filter.mpr ⟨List.mem_of_getElem? (i := 87) (by decide +kernel), (by decide +kernel)⟩
theorem we87 {c1 : Cond} : (.fieldLink "RollingBalls$Ball" 58 "RollingBalls$House" "d" "I" : Cond) ∈ c1 :: gT := List.mem_cons_of_mem _ wd87
theorem wd88 : (.fieldLink "RollingBalls$House" 16 "RollingBalls$House" "points" "I" : Cond) ∈ gT := List.mem_filter.mpr ⟨List.mem_of_getElem? (i := 88) (by decide +kernel), (by decide +kernel)⟩
theorem we88 {c1 : Cond} : (.fieldLink "RollingBalls$House" 16 "RollingBalls$House" "points" "I" : Cond) ∈ c1 :: gT := List.mem_cons_of_mem _ wd88
theorem wd89 : (.fieldLink "RollingBalls$Ball" 45 "RollingBalls$House" "points" "I" : Cond) ∈ gT := List.mem_filter.mpr ⟨List.mem_of_getElem? (i := 89) (by decide +kernel), (by decide +kernel)⟩
theorem we89 {c1 : Cond} : (.fieldLink "RollingBalls$Ball" 45 "RollingBalls$House" "points" "I" : Cond) ∈ c1 :: gT := List.mem_cons_of_mem _ wd89
theorem wd90 : (.fieldLink "RollingBalls$Plan" 45 "RollingBalls$House" "points" "I" : Cond) ∈ gT := List.mem_filter.mpr ⟨List.mem_of_getElem? (i := 90) (by decide +kernel), (by decide +kernel)⟩
theorem we90 {c1 : Cond} : (.fieldLink "RollingBalls$Plan" 45 "RollingBalls$House" "points" "I" : Cond) ∈ c1 :: gT := List.mem_cons_of_mem _ wd90
theorem wd91 : (.fieldLink "RollingBalls" 50 "RollingBalls$House" "points" "I" : Cond) ∈ gT := List.mem_filter.mpr ⟨List.mem_of_getElem? (i := 91) (by decide +kernel), (by decide +kernel)⟩
theorem we91 {c1 : Cond} : (.fieldLink "RollingBalls" 50 "RollingBalls$House" "points" "I" : Cond) ∈ c1 :: gT := List.mem_cons_of_mem _ wd91
theorem wd92 : (.fieldLink "RollingBalls$House" 19 "RollingBalls$House" "columns" "[I" : Cond) ∈ gT := List.mem_filter.mpr ⟨List.mem_of_getElem? (i := 92) (by decide +kernel), (by decide +kernel)⟩
theorem we92 {c1 : Cond} : (.fieldLink "RollingBalls$House" 19 "RollingBalls$House" "columns" "[I" : Cond) ∈ c1 :: gT := List.mem_cons_of_mem _ wd92
theorem wd93 : (.fieldLink "RollingBalls$Ball" 76 "RollingBalls$House" "columns" "[I" : Cond) ∈ gT := List.mem_filter.mpr ⟨List.mem_of_getElem? (i := 93) (by decide +kernel), (by decide +kernel)⟩
theorem we93 {c1 : Cond} : (.fieldLink "RollingBalls$Ball" 76 "RollingBalls$House" "columns" "[I" : Cond) ∈ c1 :: gT := List.mem_cons_of_mem _ wd93
theorem wd94 : (.fieldLink "RollingBalls$Plan" 144 "RollingBalls$House" "columns" "[I" : Cond) ∈ gT := List.mem_filter.mpr ⟨List.mem_of_getElem? (i := 94) (by decide +kernel), (by decide +kernel)⟩
theorem we94 {c1 : Cond} : (.fieldLink "RollingBalls$Plan" 144 "RollingBalls$House" "columns" "[I" : Cond) ∈ c1 :: gT := List.mem_cons_of_mem _ wd94
theorem wd95 : (.fieldLink "RollingBalls" 178 "RollingBalls$House" "columns" "[I" : Cond) ∈ gT := List.mem_filter.mpr ⟨List.mem_of_getElem? (i := 95) (by decide +kernel), (by decide +kernel)⟩
theorem we95 {c1 : Cond} : (.fieldLink "RollingBalls" 178 "RollingBalls$House" "columns" "[I" : Cond) ∈ c1 :: gT := List.mem_cons_of_mem _ wd95
theorem wd96 : (.fieldLink "RollingBalls$House" 23 "RollingBalls$House" "rows" "[I" : Cond) ∈ gT := List.mem_filter.mpr ⟨List.mem_of_getElem? (i := 96) (by decide +kernel), (by decide +kernel)⟩
theorem we96 {c1 : Cond} : (.fieldLink "RollingBalls$House" 23 "RollingBalls$House" "rows" "[I" : Cond) ∈ c1 :: gT := List.mem_cons_of_mem _ wd96
theorem wd97 : (.fieldLink "RollingBalls$Ball" 79 "RollingBalls$House" "rows" "[I" : Cond) ∈ gT := List.mem_filter.mpr ⟨List.mem_of_getElem? (i := 97) (by decide +kernel), (by decide +kernel)⟩
theorem we97 {c1 : Cond} : (.fieldLink "RollingBalls$Ball" 79 "RollingBalls$House" "rows" "[I" : Cond) ∈ c1 :: gT := List.mem_cons_of_mem _ wd97
theorem wd98 : (.fieldLink "RollingBalls$Plan" 150 "RollingBalls$House" "rows" "[I" : Cond) ∈ gT := List.mem_filter.mpr ⟨List.mem_of_getElem? (i := 98) (by decide +kernel), (by decide +kernel)⟩
theorem we98 {c1 : Cond} : (.fieldLink "RollingBalls$Plan" 150 "RollingBalls$House" "rows" "[I" : Cond) ∈ c1 :: gT := List.mem_cons_of_mem _ wd98
theorem wd99 : (.fieldLink "RollingBalls" 175 "RollingBalls$House" "rows" "[I" : Cond) ∈ gT := List.mem_filter.mpr ⟨List.mem_of_getElem? (i := 99) (by decide +kernel), (by decide +kernel)⟩
theorem we99 {c1 : Cond} : (.fieldLink "RollingBalls" 175 "RollingBalls$House" "rows" "[I" : Cond) ∈ c1 :: gT := List.mem_cons_of_mem _ wd99
theorem wd100 : (.fieldLink "RollingBalls$House" 26 "RollingBalls$House" "heights" "[I" : Cond) ∈ gT := List.mem_filter.mpr ⟨List.mem_of_getElem? (i := 100) (by decide +kernel), (by decide +kernel)⟩
theorem we100 {c1 : Cond} : (.fieldLink "RollingBalls$House" 26 "RollingBalls$House" "heights" "[I" : Cond) ∈ c1 :: gT := List.mem_cons_of_mem _ wd100
theorem wd101 : (.fieldLink "RollingBalls" 65 "RollingBalls$House" "heights" "[I" : Cond) ∈ gT := List.mem_filter.mpr ⟨List.mem_of_getElem? (i := 101) (by decide +kernel), (by decide +kernel)⟩
theorem we101 {c1 : Cond} : (.fieldLink "RollingBalls" 65 "RollingBalls$House" "heights" "[I" : Cond) ∈ c1 :: gT := List.mem_cons_of_mem _ wd101
theorem wd102 : (.fieldLink "RollingBalls$House" 29 "RollingBalls$House" "rods" "[I" : Cond) ∈ gT := List.mem_filter.mpr ⟨List.mem_of_getElem? (i := 102) (by decide +kernel), (by decide +kernel)⟩
theorem we102 {c1 : Cond} : (.fieldLink "RollingBalls$House" 29 "RollingBalls$House" "rods" "[I" : Cond) ∈ c1 :: gT := List.mem_cons_of_mem _ wd102
theorem wd103 : (.fieldLink "RollingBalls" 69 "RollingBalls$House" "rods" "[I" : Cond) ∈ gT := List.mem_filter.mpr ⟨List.mem_of_getElem? (i := 103) (by decide +kernel), (by decide +kernel)⟩
theorem we103 {c1 : Cond} : (.fieldLink "RollingBalls" 69 "RollingBalls$House" "rods" "[I" : Cond) ∈ c1 :: gT := List.mem_cons_of_mem _ wd103
theorem wd104 : (.fieldLink "RollingBalls$House" 32 "RollingBalls$House" "tips" "[I" : Cond) ∈ gT := List.mem_filter.mpr ⟨List.mem_of_getElem? (i := 104) (by decide +kernel), (by decide +kernel)⟩
theorem we104 {c1 : Cond} : (.fieldLink "RollingBalls$House" 32 "RollingBalls$House" "tips" "[I" : Cond) ∈ c1 :: gT := List.mem_cons_of_mem _ wd104
theorem wd105 : (.fieldLink "RollingBalls$Ball" 86 "RollingBalls$House" "tips" "[I" : Cond) ∈ gT := List.mem_filter.mpr ⟨List.mem_of_getElem? (i := 105) (by decide +kernel), (by decide +kernel)⟩
theorem we105 {c1 : Cond} : (.fieldLink "RollingBalls$Ball" 86 "RollingBalls$House" "tips" "[I" : Cond) ∈ c1 :: gT := List.mem_cons_of_mem _ wd105
theorem wd106 : (.fieldLink "RollingBalls$Plan" 85 "RollingBalls$House" "tips" "[I" : Cond) ∈ gT := List.mem_filter.mpr ⟨List.mem_of_getElem? (i := 106) (by decide +kernel), (by decide +kernel)⟩
theorem we106 {c1 : Cond} : (.fieldLink "RollingBalls$Plan" 85 "RollingBalls$House" "tips" "[I" : Cond) ∈ c1 :: gT := List.mem_cons_of_mem _ wd106
theorem wd107 : (.fieldLink "RollingBalls$House" 35 "RollingBalls$House" "rowTops" "[I" : Cond) ∈ gT := List.mem_filter.mpr ⟨List.mem_of_getElem? (i := 107) (by decide +kernel), (by decide +kernel)⟩
theorem we107 {c1 : Cond} : (.fieldLink "RollingBalls$House" 35 "RollingBalls$House" "rowTops" "[I" : Cond) ∈ c1 :: gT := List.mem_cons_of_mem _ wd107
theorem wd108 : (.fieldLink "RollingBalls$Ball" 143 "RollingBalls$House" "rowTops" "[I" : Cond) ∈ gT := List.mem_filter.mpr ⟨List.mem_of_getElem? (i := 108) (by decide +kernel), (by decide +kernel)⟩
theorem we108 {c1 : Cond} : (.fieldLink "RollingBalls$Ball" 143 "RollingBalls$House" "rowTops" "[I" : Cond) ∈ c1 :: gT := List.mem_cons_of_mem _ wd108
theorem wd109 : (.laysFinal "RollingBalls$House" "RollingBalls$House" "w" "I" : Cond) ∈ gT := List.mem_filter.mpr ⟨List.mem_of_getElem? (i := 109) (by decide +kernel), (by decide +kernel)⟩
theorem we109 {c1 : Cond} : (.laysFinal "RollingBalls$House" "RollingBalls$House" "w" "I" : Cond) ∈ c1 :: gT := List.mem_cons_of_mem _ wd109
theorem wd111 : (.laysFinal "RollingBalls$House" "RollingBalls$House" "d" "I" : Cond) ∈ gT := List.mem_filter.mpr ⟨List.mem_of_getElem? (i := 111) (by decide +kernel), (by decide +kernel)⟩
theorem we111 {c1 : Cond} : (.laysFinal "RollingBalls$House" "RollingBalls$House" "d" "I" : Cond) ∈ c1 :: gT := List.mem_cons_of_mem _ wd111
theorem wd113 : (.laysFinal "RollingBalls$House" "RollingBalls$House" "points" "I" : Cond) ∈ gT := List.mem_filter.mpr ⟨List.mem_of_getElem? (i := 113) (by decide +kernel), (by decide +kernel)⟩
theorem we113 {c1 : Cond} : (.laysFinal "RollingBalls$House" "RollingBalls$House" "points" "I" : Cond) ∈ c1 :: gT := List.mem_cons_of_mem _ wd113
theorem wd115 : (.laysFinal "RollingBalls$House" "RollingBalls$House" "columns" "[I" : Cond) ∈ gT := List.mem_filter.mpr ⟨List.mem_of_getElem? (i := 115) (by decide +kernel), (by decide +kernel)⟩
theorem we115 {c1 : Cond} : (.laysFinal "RollingBalls$House" "RollingBalls$House" "columns" "[I" : Cond) ∈ c1 :: gT := List.mem_cons_of_mem _ wd115
theorem wd117 : (.laysFinal "RollingBalls$House" "RollingBalls$House" "rows" "[I" : Cond) ∈ gT := List.mem_filter.mpr ⟨List.mem_of_getElem? (i := 117) (by decide +kernel), (by decide +kernel)⟩
theorem we117 {c1 : Cond} : (.laysFinal "RollingBalls$House" "RollingBalls$House" "rows" "[I" : Cond) ∈ c1 :: gT := List.mem_cons_of_mem _ wd117
theorem wd119 : (.laysFinal "RollingBalls$House" "RollingBalls$House" "heights" "[I" : Cond) ∈ gT := List.mem_filter.mpr ⟨List.mem_of_getElem? (i := 119) (by decide +kernel), (by decide +kernel)⟩
theorem we119 {c1 : Cond} : (.laysFinal "RollingBalls$House" "RollingBalls$House" "heights" "[I" : Cond) ∈ c1 :: gT := List.mem_cons_of_mem _ wd119
theorem wd121 : (.laysFinal "RollingBalls$House" "RollingBalls$House" "rods" "[I" : Cond) ∈ gT := List.mem_filter.mpr ⟨List.mem_of_getElem? (i := 121) (by decide +kernel), (by decide +kernel)⟩
theorem we121 {c1 : Cond} : (.laysFinal "RollingBalls$House" "RollingBalls$House" "rods" "[I" : Cond) ∈ c1 :: gT := List.mem_cons_of_mem _ wd121
theorem wd123 : (.laysFinal "RollingBalls$House" "RollingBalls$House" "tips" "[I" : Cond) ∈ gT := List.mem_filter.mpr ⟨List.mem_of_getElem? (i := 123) (by decide +kernel), (by decide +kernel)⟩
theorem we123 {c1 : Cond} : (.laysFinal "RollingBalls$House" "RollingBalls$House" "tips" "[I" : Cond) ∈ c1 :: gT := List.mem_cons_of_mem _ wd123
theorem wd125 : (.laysFinal "RollingBalls$House" "RollingBalls$House" "rowTops" "[I" : Cond) ∈ gT := List.mem_filter.mpr ⟨List.mem_of_getElem? (i := 125) (by decide +kernel), (by decide +kernel)⟩
theorem we125 {c1 : Cond} : (.laysFinal "RollingBalls$House" "RollingBalls$House" "rowTops" "[I" : Cond) ∈ c1 :: gT := List.mem_cons_of_mem _ wd125
theorem wd128 : (.arrayClass .int : Cond) ∈ gT := List.mem_filter.mpr ⟨List.mem_of_getElem? (i := 128) (by decide +kernel), (by decide +kernel)⟩
theorem we128 {c1 : Cond} : (.arrayClass .int : Cond) ∈ c1 :: gT := List.mem_cons_of_mem _ wd128
theorem wd129 : (.classLink "RollingBalls" 32 "RollingBalls$Ball" : Cond) ∈ gT := List.mem_filter.mpr ⟨List.mem_of_getElem? (i := 129) (by decide +kernel), (by decide +kernel)⟩
theorem we129 {c1 : Cond} : (.classLink "RollingBalls" 32 "RollingBalls$Ball" : Cond) ∈ c1 :: gT := List.mem_cons_of_mem _ wd129
theorem wd130 : (.instantiable "RollingBalls$Ball" 12 : Cond) ∈ gT := List.mem_filter.mpr ⟨List.mem_of_getElem? (i := 130) (by decide +kernel), (by decide +kernel)⟩
theorem we130 {c1 : Cond} : (.instantiable "RollingBalls$Ball" 12 : Cond) ∈ c1 :: gT := List.mem_cons_of_mem _ wd130
theorem wd131 : (.methodLink "RollingBalls" 34 ⟨"RollingBalls$Ball", "<init>", "(LRollingBalls$House;I)V"⟩ : Cond) ∈ gT := List.mem_filter.mpr ⟨List.mem_of_getElem? (i := 131) (by decide +kernel), (by decide +kernel)⟩
theorem we131 {c1 : Cond} : (.methodLink "RollingBalls" 34 ⟨"RollingBalls$Ball", "<init>", "(LRollingBalls$House;I)V"⟩ : Cond) ∈ c1 :: gT := List.mem_cons_of_mem _ wd131
theorem wd132 : (.instanceMethod ⟨"RollingBalls$Ball", "<init>", "(LRollingBalls$House;I)V"⟩ : Cond) ∈ gT := List.mem_filter.mpr ⟨List.mem_of_getElem? (i := 132) (by decide +kernel), (by decide +kernel)⟩
theorem we132 {c1 : Cond} : (.instanceMethod ⟨"RollingBalls$Ball", "<init>", "(LRollingBalls$House;I)V"⟩ : Cond) ∈ c1 :: gT := List.mem_cons_of_mem _ wd132
theorem wd133 : (.code ⟨"RollingBalls$Ball", "<init>", "(LRollingBalls$House;I)V"⟩ prog_2_method_1_code 5 none : Cond) ∈ gT := List.mem_filter.mpr ⟨List.mem_of_getElem? (i := 133) (by decide +kernel), (by decide +kernel)⟩
theorem we133 {c1 : Cond} : (.code ⟨"RollingBalls$Ball", "<init>", "(LRollingBalls$House;I)V"⟩ prog_2_method_1_code 5 none : Cond) ∈ c1 :: gT := List.mem_cons_of_mem _ wd133
theorem wd134 : (.methodLink "RollingBalls$Ball" 3 ⟨"java/lang/Object", "<init>", "()V"⟩ : Cond) ∈ gT := List.mem_filter.mpr ⟨List.mem_of_getElem? (i := 134) (by decide +kernel), (by decide +kernel)⟩
theorem we134 {c1 : Cond} : (.methodLink "RollingBalls$Ball" 3 ⟨"java/lang/Object", "<init>", "()V"⟩ : Cond) ∈ c1 :: gT := List.mem_cons_of_mem _ wd134
theorem wd135 : (.constant "RollingBalls$Ball" 24 1048576 : Cond) ∈ gT := List.mem_filter.mpr ⟨List.mem_of_getElem? (i := 135) (by decide +kernel), (by decide +kernel)⟩
theorem we135 {c1 : Cond} : (.constant "RollingBalls$Ball" 24 1048576 : Cond) ∈ c1 :: gT := List.mem_cons_of_mem _ wd135
theorem wd136 : (.classLink "RollingBalls$Ball" 36 "RollingBalls$Shadow" : Cond) ∈ gT := List.mem_filter.mpr ⟨List.mem_of_getElem? (i := 136) (by decide +kernel), (by decide +kernel)⟩
theorem we136 {c1 : Cond} : (.classLink "RollingBalls$Ball" 36 "RollingBalls$Shadow" : Cond) ∈ c1 :: gT := List.mem_cons_of_mem _ wd136
theorem wd137 : (.instantiable "RollingBalls$Shadow" 7 : Cond) ∈ gT := List.mem_filter.mpr ⟨List.mem_of_getElem? (i := 137) (by decide +kernel), (by decide +kernel)⟩
theorem we137 {c1 : Cond} : (.instantiable "RollingBalls$Shadow" 7 : Cond) ∈ c1 :: gT := List.mem_cons_of_mem _ wd137
theorem wd138 : (.methodLink "RollingBalls$Ball" 38 ⟨"RollingBalls$Shadow", "<init>", "(II)V"⟩ : Cond) ∈ gT := List.mem_filter.mpr ⟨List.mem_of_getElem? (i := 138) (by decide +kernel), (by decide +kernel)⟩
theorem we138 {c1 : Cond} : (.methodLink "RollingBalls$Ball" 38 ⟨"RollingBalls$Shadow", "<init>", "(II)V"⟩ : Cond) ∈ c1 :: gT := List.mem_cons_of_mem _ wd138
theorem wd139 : (.instanceMethod ⟨"RollingBalls$Shadow", "<init>", "(II)V"⟩ : Cond) ∈ gT := List.mem_filter.mpr ⟨List.mem_of_getElem? (i := 139) (by decide +kernel), (by decide +kernel)⟩
theorem we139 {c1 : Cond} : (.instanceMethod ⟨"RollingBalls$Shadow", "<init>", "(II)V"⟩ : Cond) ∈ c1 :: gT := List.mem_cons_of_mem _ wd139
theorem wd140 : (.code ⟨"RollingBalls$Shadow", "<init>", "(II)V"⟩ prog_6_method_1_code 9 none : Cond) ∈ gT := List.mem_filter.mpr ⟨List.mem_of_getElem? (i := 140) (by decide +kernel), (by decide +kernel)⟩
theorem we140 {c1 : Cond} : (.code ⟨"RollingBalls$Shadow", "<init>", "(II)V"⟩ prog_6_method_1_code 9 none : Cond) ∈ c1 :: gT := List.mem_cons_of_mem _ wd140
theorem wd141 : (.methodLink "RollingBalls$Shadow" 1 ⟨"java/lang/Object", "<init>", "()V"⟩ : Cond) ∈ gT := List.mem_filter.mpr ⟨List.mem_of_getElem? (i := 141) (by decide +kernel), (by decide +kernel)⟩
theorem we141 {c1 : Cond} : (.methodLink "RollingBalls$Shadow" 1 ⟨"java/lang/Object", "<init>", "()V"⟩ : Cond) ∈ c1 :: gT := List.mem_cons_of_mem _ wd141
theorem wd142 : (.methodLink "RollingBalls$Shadow" 7 ⟨"RollingBalls$Shadow", "firstSteps", "(I)[I"⟩ : Cond) ∈ gT := List.mem_filter.mpr ⟨List.mem_of_getElem? (i := 142) (by decide +kernel), (by decide +kernel)⟩
theorem we142 {c1 : Cond} : (.methodLink "RollingBalls$Shadow" 7 ⟨"RollingBalls$Shadow", "firstSteps", "(I)[I"⟩ : Cond) ∈ c1 :: gT := List.mem_cons_of_mem _ wd142
theorem wd143 : (.static ⟨"RollingBalls$Shadow", "firstSteps", "(I)[I"⟩ : Cond) ∈ gT := List.mem_filter.mpr ⟨List.mem_of_getElem? (i := 143) (by decide +kernel), (by decide +kernel)⟩
theorem we143 {c1 : Cond} : (.static ⟨"RollingBalls$Shadow", "firstSteps", "(I)[I"⟩ : Cond) ∈ c1 :: gT := List.mem_cons_of_mem _ wd143
theorem wd144 : (.code ⟨"RollingBalls$Shadow", "firstSteps", "(I)[I"⟩ prog_6_method_2_code 4 (some (.array .int)) : Cond) ∈ gT := List.mem_filter.mpr ⟨List.mem_of_getElem? (i := 144) (by decide +kernel), (by decide +kernel)⟩
theorem we144 {c1 : Cond} : (.code ⟨"RollingBalls$Shadow", "firstSteps", "(I)[I"⟩ prog_6_method_2_code 4 (some (.array .int)) : Cond) ∈ c1 :: gT := List.mem_cons_of_mem _ wd144
theorem wd145 : (.fieldLink "RollingBalls$Shadow" 36 "RollingBalls$Level" "ROOTS" "[I" : Cond) ∈ gT := List.mem_filter.mpr ⟨List.mem_of_getElem? (i := 145) (by decide +kernel), (by decide +kernel)⟩
theorem we145 {c1 : Cond} : (.fieldLink "RollingBalls$Shadow" 36 "RollingBalls$Level" "ROOTS" "[I" : Cond) ∈ c1 :: gT := List.mem_cons_of_mem _ wd145
theorem wd147 : (.constant "RollingBalls$Shadow" 41 (-1073741824) : Cond) ∈ gT := List.mem_filter.mpr ⟨List.mem_of_getElem? (i := 147) (by decide +kernel), (by decide +kernel)⟩
theorem we147 {c1 : Cond} : (.constant "RollingBalls$Shadow" 41 (-1073741824) : Cond) ∈ c1 :: gT := List.mem_cons_of_mem _ wd147
theorem wd148 : (.fieldLink "RollingBalls$Shadow" 13 "RollingBalls$Shadow" "size" "I" : Cond) ∈ gT := List.mem_filter.mpr ⟨List.mem_of_getElem? (i := 148) (by decide +kernel), (by decide +kernel)⟩
theorem we148 {c1 : Cond} : (.fieldLink "RollingBalls$Shadow" 13 "RollingBalls$Shadow" "size" "I" : Cond) ∈ c1 :: gT := List.mem_cons_of_mem _ wd148
theorem wd149 : (.fieldLink "RollingBalls$Ball" 96 "RollingBalls$Shadow" "size" "I" : Cond) ∈ gT := List.mem_filter.mpr ⟨List.mem_of_getElem? (i := 149) (by decide +kernel), (by decide +kernel)⟩
theorem we149 {c1 : Cond} : (.fieldLink "RollingBalls$Ball" 96 "RollingBalls$Shadow" "size" "I" : Cond) ∈ c1 :: gT := List.mem_cons_of_mem _ wd149
theorem wd150 : (.fieldLink "RollingBalls$Plan" 130 "RollingBalls$Shadow" "size" "I" : Cond) ∈ gT := List.mem_filter.mpr ⟨List.mem_of_getElem? (i := 150) (by decide +kernel), (by decide +kernel)⟩
theorem we150 {c1 : Cond} : (.fieldLink "RollingBalls$Plan" 130 "RollingBalls$Shadow" "size" "I" : Cond) ∈ c1 :: gT := List.mem_cons_of_mem _ wd150
theorem wd151 : (.fieldLink "RollingBalls$Shadow" 17 "RollingBalls$Shadow" "across" "[I" : Cond) ∈ gT := List.mem_filter.mpr ⟨List.mem_of_getElem? (i := 151) (by decide +kernel), (by decide +kernel)⟩
theorem we151 {c1 : Cond} : (.fieldLink "RollingBalls$Shadow" 17 "RollingBalls$Shadow" "across" "[I" : Cond) ∈ c1 :: gT := List.mem_cons_of_mem _ wd151
theorem wd152 : (.fieldLink "RollingBalls$Ball" 116 "RollingBalls$Shadow" "across" "[I" : Cond) ∈ gT := List.mem_filter.mpr ⟨List.mem_of_getElem? (i := 152) (by decide +kernel), (by decide +kernel)⟩
theorem we152 {c1 : Cond} : (.fieldLink "RollingBalls$Ball" 116 "RollingBalls$Shadow" "across" "[I" : Cond) ∈ c1 :: gT := List.mem_cons_of_mem _ wd152
theorem wd153 : (.fieldLink "RollingBalls$Plan" 147 "RollingBalls$Shadow" "across" "[I" : Cond) ∈ gT := List.mem_filter.mpr ⟨List.mem_of_getElem? (i := 153) (by decide +kernel), (by decide +kernel)⟩
theorem we153 {c1 : Cond} : (.fieldLink "RollingBalls$Plan" 147 "RollingBalls$Shadow" "across" "[I" : Cond) ∈ c1 :: gT := List.mem_cons_of_mem _ wd153
theorem wd154 : (.fieldLink "RollingBalls$Shadow" 21 "RollingBalls$Shadow" "along" "[I" : Cond) ∈ gT := List.mem_filter.mpr ⟨List.mem_of_getElem? (i := 154) (by decide +kernel), (by decide +kernel)⟩
theorem we154 {c1 : Cond} : (.fieldLink "RollingBalls$Shadow" 21 "RollingBalls$Shadow" "along" "[I" : Cond) ∈ c1 :: gT := List.mem_cons_of_mem _ wd154
theorem wd155 : (.fieldLink "RollingBalls$Ball" 119 "RollingBalls$Shadow" "along" "[I" : Cond) ∈ gT := List.mem_filter.mpr ⟨List.mem_of_getElem? (i := 155) (by decide +kernel), (by decide +kernel)⟩
theorem we155 {c1 : Cond} : (.fieldLink "RollingBalls$Ball" 119 "RollingBalls$Shadow" "along" "[I" : Cond) ∈ c1 :: gT := List.mem_cons_of_mem _ wd155
theorem wd156 : (.fieldLink "RollingBalls$Plan" 153 "RollingBalls$Shadow" "along" "[I" : Cond) ∈ gT := List.mem_filter.mpr ⟨List.mem_of_getElem? (i := 156) (by decide +kernel), (by decide +kernel)⟩
theorem we156 {c1 : Cond} : (.fieldLink "RollingBalls$Plan" 153 "RollingBalls$Shadow" "along" "[I" : Cond) ∈ c1 :: gT := List.mem_cons_of_mem _ wd156
theorem wd157 : (.fieldLink "RollingBalls$Shadow" 24 "RollingBalls$Shadow" "strides" "[I" : Cond) ∈ gT := List.mem_filter.mpr ⟨List.mem_of_getElem? (i := 157) (by decide +kernel), (by decide +kernel)⟩
theorem we157 {c1 : Cond} : (.fieldLink "RollingBalls$Shadow" 24 "RollingBalls$Shadow" "strides" "[I" : Cond) ∈ c1 :: gT := List.mem_cons_of_mem _ wd157
theorem wd158 : (.fieldLink "RollingBalls$Ball" 99 "RollingBalls$Shadow" "strides" "[I" : Cond) ∈ gT := List.mem_filter.mpr ⟨List.mem_of_getElem? (i := 158) (by decide +kernel), (by decide +kernel)⟩
theorem we158 {c1 : Cond} : (.fieldLink "RollingBalls$Ball" 99 "RollingBalls$Shadow" "strides" "[I" : Cond) ∈ c1 :: gT := List.mem_cons_of_mem _ wd158
theorem wd159 : (.fieldLink "RollingBalls$Plan" 141 "RollingBalls$Shadow" "strides" "[I" : Cond) ∈ gT := List.mem_filter.mpr ⟨List.mem_of_getElem? (i := 159) (by decide +kernel), (by decide +kernel)⟩
theorem we159 {c1 : Cond} : (.fieldLink "RollingBalls$Plan" 141 "RollingBalls$Shadow" "strides" "[I" : Cond) ∈ c1 :: gT := List.mem_cons_of_mem _ wd159
theorem wd160 : (.fieldLink "RollingBalls$Shadow" 27 "RollingBalls$Shadow" "lifts" "[I" : Cond) ∈ gT := List.mem_filter.mpr ⟨List.mem_of_getElem? (i := 160) (by decide +kernel), (by decide +kernel)⟩
theorem we160 {c1 : Cond} : (.fieldLink "RollingBalls$Shadow" 27 "RollingBalls$Shadow" "lifts" "[I" : Cond) ∈ c1 :: gT := List.mem_cons_of_mem _ wd160
theorem wd161 : (.fieldLink "RollingBalls$Ball" 102 "RollingBalls$Shadow" "lifts" "[I" : Cond) ∈ gT := List.mem_filter.mpr ⟨List.mem_of_getElem? (i := 161) (by decide +kernel), (by decide +kernel)⟩
theorem we161 {c1 : Cond} : (.fieldLink "RollingBalls$Ball" 102 "RollingBalls$Shadow" "lifts" "[I" : Cond) ∈ c1 :: gT := List.mem_cons_of_mem _ wd161
theorem wd162 : (.fieldLink "RollingBalls$Plan" 135 "RollingBalls$Shadow" "lifts" "[I" : Cond) ∈ gT := List.mem_filter.mpr ⟨List.mem_of_getElem? (i := 162) (by decide +kernel), (by decide +kernel)⟩
theorem we162 {c1 : Cond} : (.fieldLink "RollingBalls$Plan" 135 "RollingBalls$Shadow" "lifts" "[I" : Cond) ∈ c1 :: gT := List.mem_cons_of_mem _ wd162
theorem wd163 : (.fieldLink "RollingBalls$Shadow" 33 "RollingBalls$Shadow" "square" "[I" : Cond) ∈ gT := List.mem_filter.mpr ⟨List.mem_of_getElem? (i := 163) (by decide +kernel), (by decide +kernel)⟩
theorem we163 {c1 : Cond} : (.fieldLink "RollingBalls$Shadow" 33 "RollingBalls$Shadow" "square" "[I" : Cond) ∈ c1 :: gT := List.mem_cons_of_mem _ wd163
theorem wd164 : (.fieldLink "RollingBalls$Ball" 139 "RollingBalls$Shadow" "square" "[I" : Cond) ∈ gT := List.mem_filter.mpr ⟨List.mem_of_getElem? (i := 164) (by decide +kernel), (by decide +kernel)⟩
theorem we164 {c1 : Cond} : (.fieldLink "RollingBalls$Ball" 139 "RollingBalls$Shadow" "square" "[I" : Cond) ∈ c1 :: gT := List.mem_cons_of_mem _ wd164
theorem wd165 : (.fieldLink "RollingBalls$Shadow" 30 "RollingBalls$Shadow" "side" "I" : Cond) ∈ gT := List.mem_filter.mpr ⟨List.mem_of_getElem? (i := 165) (by decide +kernel), (by decide +kernel)⟩
theorem we165 {c1 : Cond} : (.fieldLink "RollingBalls$Shadow" 30 "RollingBalls$Shadow" "side" "I" : Cond) ∈ c1 :: gT := List.mem_cons_of_mem _ wd165
theorem wd166 : (.fieldLink "RollingBalls$Ball" 136 "RollingBalls$Shadow" "side" "I" : Cond) ∈ gT := List.mem_filter.mpr ⟨List.mem_of_getElem? (i := 166) (by decide +kernel), (by decide +kernel)⟩
theorem we166 {c1 : Cond} : (.fieldLink "RollingBalls$Ball" 136 "RollingBalls$Shadow" "side" "I" : Cond) ∈ c1 :: gT := List.mem_cons_of_mem _ wd166
theorem wd167 : (.laysFinal "RollingBalls$Shadow" "RollingBalls$Shadow" "size" "I" : Cond) ∈ gT := List.mem_filter.mpr ⟨List.mem_of_getElem? (i := 167) (by decide +kernel), (by decide +kernel)⟩
theorem we167 {c1 : Cond} : (.laysFinal "RollingBalls$Shadow" "RollingBalls$Shadow" "size" "I" : Cond) ∈ c1 :: gT := List.mem_cons_of_mem _ wd167
theorem wd169 : (.laysFinal "RollingBalls$Shadow" "RollingBalls$Shadow" "across" "[I" : Cond) ∈ gT := List.mem_filter.mpr ⟨List.mem_of_getElem? (i := 169) (by decide +kernel), (by decide +kernel)⟩
theorem we169 {c1 : Cond} : (.laysFinal "RollingBalls$Shadow" "RollingBalls$Shadow" "across" "[I" : Cond) ∈ c1 :: gT := List.mem_cons_of_mem _ wd169
theorem wd171 : (.laysFinal "RollingBalls$Shadow" "RollingBalls$Shadow" "along" "[I" : Cond) ∈ gT := List.mem_filter.mpr ⟨List.mem_of_getElem? (i := 171) (by decide +kernel), (by decide +kernel)⟩
theorem we171 {c1 : Cond} : (.laysFinal "RollingBalls$Shadow" "RollingBalls$Shadow" "along" "[I" : Cond) ∈ c1 :: gT := List.mem_cons_of_mem _ wd171
theorem wd173 : (.laysFinal "RollingBalls$Shadow" "RollingBalls$Shadow" "strides" "[I" : Cond) ∈ gT := List.mem_filter.mpr ⟨List.mem_of_getElem? (i := 173) (by decide +kernel), (by decide +kernel)⟩
theorem we173 {c1 : Cond} : (.laysFinal "RollingBalls$Shadow" "RollingBalls$Shadow" "strides" "[I" : Cond) ∈ c1 :: gT := List.mem_cons_of_mem _ wd173
theorem wd175 : (.laysFinal "RollingBalls$Shadow" "RollingBalls$Shadow" "lifts" "[I" : Cond) ∈ gT := List.mem_filter.mpr ⟨List.mem_of_getElem? (i := 175) (by decide +kernel), (by decide +kernel)⟩
theorem we175 {c1 : Cond} : (.laysFinal "RollingBalls$Shadow" "RollingBalls$Shadow" "lifts" "[I" : Cond) ∈ c1 :: gT := List.mem_cons_of_mem _ wd175
theorem wd177 : (.laysFinal "RollingBalls$Shadow" "RollingBalls$Shadow" "square" "[I" : Cond) ∈ gT := List.mem_filter.mpr ⟨List.mem_of_getElem? (i := 177) (by decide +kernel), (by decide +kernel)⟩
theorem we177 {c1 : Cond} : (.laysFinal "RollingBalls$Shadow" "RollingBalls$Shadow" "square" "[I" : Cond) ∈ c1 :: gT := List.mem_cons_of_mem _ wd177
theorem wd179 : (.laysFinal "RollingBalls$Shadow" "RollingBalls$Shadow" "side" "I" : Cond) ∈ gT := List.mem_filter.mpr ⟨List.mem_of_getElem? (i := 179) (by decide +kernel), (by decide +kernel)⟩
theorem we179 {c1 : Cond} : (.laysFinal "RollingBalls$Shadow" "RollingBalls$Shadow" "side" "I" : Cond) ∈ c1 :: gT := List.mem_cons_of_mem _ wd179
theorem wd182 : (.methodLink "RollingBalls$Ball" 70 ⟨"java/util/Arrays", "fill", "([II)V"⟩ : Cond) ∈ gT := List.mem_filter.mpr ⟨List.mem_of_getElem? (i := 182) (by decide +kernel), (by decide +kernel)⟩
theorem we182 {c1 : Cond} : (.methodLink "RollingBalls$Ball" 70 ⟨"java/util/Arrays", "fill", "([II)V"⟩ : Cond) ∈ c1 :: gT := List.mem_cons_of_mem _ wd182
theorem wd183 : (.static ⟨"java/util/Arrays", "fill", "([II)V"⟩ : Cond) ∈ gT := List.mem_filter.mpr ⟨List.mem_of_getElem? (i := 183) (by decide +kernel), (by decide +kernel)⟩
theorem we183 {c1 : Cond} : (.static ⟨"java/util/Arrays", "fill", "([II)V"⟩ : Cond) ∈ c1 :: gT := List.mem_cons_of_mem _ wd183
theorem wd184 : (.code ⟨"java/util/Arrays", "fill", "([II)V"⟩ prog_18_method_103_code 4 none : Cond) ∈ gT := List.mem_filter.mpr ⟨List.mem_of_getElem? (i := 184) (by decide +kernel), (by decide +kernel)⟩
theorem we184 {c1 : Cond} : (.code ⟨"java/util/Arrays", "fill", "([II)V"⟩ prog_18_method_103_code 4 none : Cond) ∈ c1 :: gT := List.mem_cons_of_mem _ wd184
theorem wd185 : (.methodLink "RollingBalls$Ball" 82 ⟨"RollingBalls$Ball", "placeIndex", "(II)I"⟩ : Cond) ∈ gT := List.mem_filter.mpr ⟨List.mem_of_getElem? (i := 185) (by decide +kernel), (by decide +kernel)⟩
theorem we185 {c1 : Cond} : (.methodLink "RollingBalls$Ball" 82 ⟨"RollingBalls$Ball", "placeIndex", "(II)I"⟩ : Cond) ∈ c1 :: gT := List.mem_cons_of_mem _ wd185
theorem wd187 : (.instanceMethod ⟨"RollingBalls$Ball", "placeIndex", "(II)I"⟩ : Cond) ∈ gT := List.mem_filter.mpr ⟨List.mem_of_getElem? (i := 187) (by decide +kernel), (by decide +kernel)⟩
theorem we187 {c1 : Cond} : (.instanceMethod ⟨"RollingBalls$Ball", "placeIndex", "(II)I"⟩ : Cond) ∈ c1 :: gT := List.mem_cons_of_mem _ wd187
theorem wd188 : (.code ⟨"RollingBalls$Ball", "placeIndex", "(II)I"⟩ prog_2_method_16_code 3 (some .int) : Cond) ∈ gT := List.mem_filter.mpr ⟨List.mem_of_getElem? (i := 188) (by decide +kernel), (by decide +kernel)⟩
theorem we188 {c1 : Cond} : (.code ⟨"RollingBalls$Ball", "placeIndex", "(II)I"⟩ prog_2_method_16_code 3 (some .int) : Cond) ∈ c1 :: gT := List.mem_cons_of_mem _ wd188
theorem wd189 : (.fieldLink "RollingBalls$Ball" 41 "RollingBalls$Ball" "shadow" "LRollingBalls$Shadow;" : Cond) ∈ gT := List.mem_filter.mpr ⟨List.mem_of_getElem? (i := 189) (by decide +kernel), (by decide +kernel)⟩
theorem we189 {c1 : Cond} : (.fieldLink "RollingBalls$Ball" 41 "RollingBalls$Ball" "shadow" "LRollingBalls$Shadow;" : Cond) ∈ c1 :: gT := List.mem_cons_of_mem _ wd189
theorem wd190 : (.fieldLink "RollingBalls$Plan" 120 "RollingBalls$Ball" "shadow" "LRollingBalls$Shadow;" : Cond) ∈ gT := List.mem_filter.mpr ⟨List.mem_of_getElem? (i := 190) (by decide +kernel), (by decide +kernel)⟩
theorem we190 {c1 : Cond} : (.fieldLink "RollingBalls$Plan" 120 "RollingBalls$Ball" "shadow" "LRollingBalls$Shadow;" : Cond) ∈ c1 :: gT := List.mem_cons_of_mem _ wd190
theorem wd191 : (.fieldLink "RollingBalls$Ball" 48 "RollingBalls$Ball" "homes" "[I" : Cond) ∈ gT := List.mem_filter.mpr ⟨List.mem_of_getElem? (i := 191) (by decide +kernel), (by decide +kernel)⟩
theorem we191 {c1 : Cond} : (.fieldLink "RollingBalls$Ball" 48 "RollingBalls$Ball" "homes" "[I" : Cond) ∈ c1 :: gT := List.mem_cons_of_mem _ wd191
theorem wd192 : (.fieldLink "RollingBalls$Plan" 124 "RollingBalls$Ball" "homes" "[I" : Cond) ∈ gT := List.mem_filter.mpr ⟨List.mem_of_getElem? (i := 192) (by decide +kernel), (by decide +kernel)⟩
theorem we192 {c1 : Cond} : (.fieldLink "RollingBalls$Plan" 124 "RollingBalls$Ball" "homes" "[I" : Cond) ∈ c1 :: gT := List.mem_cons_of_mem _ wd192
theorem wd193 : (.fieldLink "RollingBalls$Ball" 61 "RollingBalls$Ball" "rests" "[I" : Cond) ∈ gT := List.mem_filter.mpr ⟨List.mem_of_getElem? (i := 193) (by decide +kernel), (by decide +kernel)⟩
theorem we193 {c1 : Cond} : (.fieldLink "RollingBalls$Ball" 61 "RollingBalls$Ball" "rests" "[I" : Cond) ∈ c1 :: gT := List.mem_cons_of_mem _ wd193
theorem wd194 : (.fieldLink "RollingBalls$Plan" 138 "RollingBalls$Ball" "rests" "[I" : Cond) ∈ gT := List.mem_filter.mpr ⟨List.mem_of_getElem? (i := 194) (by decide +kernel), (by decide +kernel)⟩
theorem we194 {c1 : Cond} : (.fieldLink "RollingBalls$Plan" 138 "RollingBalls$Ball" "rests" "[I" : Cond) ∈ c1 :: gT := List.mem_cons_of_mem _ wd194
theorem wd195 : (.fieldLink "RollingBalls$Ball" 25 "RollingBalls$Ball" "ground" "I" : Cond) ∈ gT := List.mem_filter.mpr ⟨List.mem_of_getElem? (i := 195) (by decide +kernel), (by decide +kernel)⟩
theorem we195 {c1 : Cond} : (.fieldLink "RollingBalls$Ball" 25 "RollingBalls$Ball" "ground" "I" : Cond) ∈ c1 :: gT := List.mem_cons_of_mem _ wd195
theorem wd196 : (.fieldLink "RollingBalls" 100 "RollingBalls$Ball" "ground" "I" : Cond) ∈ gT := List.mem_filter.mpr ⟨List.mem_of_getElem? (i := 196) (by decide +kernel), (by decide +kernel)⟩
theorem we196 {c1 : Cond} : (.fieldLink "RollingBalls" 100 "RollingBalls$Ball" "ground" "I" : Cond) ∈ c1 :: gT := List.mem_cons_of_mem _ wd196
theorem wd197 : (.fieldLink "RollingBalls$Plan" 163 "RollingBalls$Ball" "ground" "I" : Cond) ∈ gT := List.mem_filter.mpr ⟨List.mem_of_getElem? (i := 197) (by decide +kernel), (by decide +kernel)⟩
theorem we197 {c1 : Cond} : (.fieldLink "RollingBalls$Plan" 163 "RollingBalls$Ball" "ground" "I" : Cond) ∈ c1 :: gT := List.mem_cons_of_mem _ wd197
theorem wd198 : (.fieldLink "RollingBalls$Ball" 64 "RollingBalls$Ball" "owners" "[I" : Cond) ∈ gT := List.mem_filter.mpr ⟨List.mem_of_getElem? (i := 198) (by decide +kernel), (by decide +kernel)⟩
theorem we198 {c1 : Cond} : (.fieldLink "RollingBalls$Ball" 64 "RollingBalls$Ball" "owners" "[I" : Cond) ∈ c1 :: gT := List.mem_cons_of_mem _ wd198
theorem wd199 : (.fieldLink "RollingBalls$Plan" 172 "RollingBalls$Ball" "owners" "[I" : Cond) ∈ gT := List.mem_filter.mpr ⟨List.mem_of_getElem? (i := 199) (by decide +kernel), (by decide +kernel)⟩
theorem we199 {c1 : Cond} : (.fieldLink "RollingBalls$Plan" 172 "RollingBalls$Ball" "owners" "[I" : Cond) ∈ c1 :: gT := List.mem_cons_of_mem _ wd199
theorem wd200 : (.fieldLink "RollingBalls$Ball" 52 "RollingBalls$Ball" "hitCounts" "[I" : Cond) ∈ gT := List.mem_filter.mpr ⟨List.mem_of_getElem? (i := 200) (by decide +kernel), (by decide +kernel)⟩
theorem we200 {c1 : Cond} : (.fieldLink "RollingBalls$Ball" 52 "RollingBalls$Ball" "hitCounts" "[I" : Cond) ∈ c1 :: gT := List.mem_cons_of_mem _ wd200
theorem wd201 : (.fieldLink "RollingBalls" 135 "RollingBalls$Ball" "hitCounts" "[I" : Cond) ∈ gT := List.mem_filter.mpr ⟨List.mem_of_getElem? (i := 201) (by decide +kernel), (by decide +kernel)⟩
theorem we201 {c1 : Cond} : (.fieldLink "RollingBalls" 135 "RollingBalls$Ball" "hitCounts" "[I" : Cond) ∈ c1 :: gT := List.mem_cons_of_mem _ wd201
theorem wd202 : (.fieldLink "RollingBalls$Plan" 127 "RollingBalls$Ball" "hitCounts" "[I" : Cond) ∈ gT := List.mem_filter.mpr ⟨List.mem_of_getElem? (i := 202) (by decide +kernel), (by decide +kernel)⟩
theorem we202 {c1 : Cond} : (.fieldLink "RollingBalls$Plan" 127 "RollingBalls$Ball" "hitCounts" "[I" : Cond) ∈ c1 :: gT := List.mem_cons_of_mem _ wd202
theorem wd203 : (.fieldLink "RollingBalls$Ball" 55 "RollingBalls$Ball" "listed" "[I" : Cond) ∈ gT := List.mem_filter.mpr ⟨List.mem_of_getElem? (i := 203) (by decide +kernel), (by decide +kernel)⟩
theorem we203 {c1 : Cond} : (.fieldLink "RollingBalls$Ball" 55 "RollingBalls$Ball" "listed" "[I" : Cond) ∈ c1 :: gT := List.mem_cons_of_mem _ wd203
theorem wd204 : (.fieldLink "RollingBalls" 120 "RollingBalls$Ball" "listed" "[I" : Cond) ∈ gT := List.mem_filter.mpr ⟨List.mem_of_getElem? (i := 204) (by decide +kernel), (by decide +kernel)⟩
theorem we204 {c1 : Cond} : (.fieldLink "RollingBalls" 120 "RollingBalls$Ball" "listed" "[I" : Cond) ∈ c1 :: gT := List.mem_cons_of_mem _ wd204
theorem wd205 : (.fieldLink "RollingBalls$Plan" 185 "RollingBalls$Ball" "listed" "[I" : Cond) ∈ gT := List.mem_filter.mpr ⟨List.mem_of_getElem? (i := 205) (by decide +kernel), (by decide +kernel)⟩
theorem we205 {c1 : Cond} : (.fieldLink "RollingBalls$Plan" 185 "RollingBalls$Ball" "listed" "[I" : Cond) ∈ c1 :: gT := List.mem_cons_of_mem _ wd205
theorem wd206 : (.fieldLink "RollingBalls$Ball" 9 "RollingBalls$Ball" "listedCount" "I" : Cond) ∈ gT := List.mem_filter.mpr ⟨List.mem_of_getElem? (i := 206) (by decide +kernel), (by decide +kernel)⟩
theorem we206 {c1 : Cond} : (.fieldLink "RollingBalls$Ball" 9 "RollingBalls$Ball" "listedCount" "I" : Cond) ∈ c1 :: gT := List.mem_cons_of_mem _ wd206
theorem wd207 : (.fieldLink "RollingBalls" 117 "RollingBalls$Ball" "listedCount" "I" : Cond) ∈ gT := List.mem_filter.mpr ⟨List.mem_of_getElem? (i := 207) (by decide +kernel), (by decide +kernel)⟩
theorem we207 {c1 : Cond} : (.fieldLink "RollingBalls" 117 "RollingBalls$Ball" "listedCount" "I" : Cond) ∈ c1 :: gT := List.mem_cons_of_mem _ wd207
theorem wd208 : (.fieldLink "RollingBalls$Plan" 182 "RollingBalls$Ball" "listedCount" "I" : Cond) ∈ gT := List.mem_filter.mpr ⟨List.mem_of_getElem? (i := 208) (by decide +kernel), (by decide +kernel)⟩
theorem we208 {c1 : Cond} : (.fieldLink "RollingBalls$Plan" 182 "RollingBalls$Ball" "listedCount" "I" : Cond) ∈ c1 :: gT := List.mem_cons_of_mem _ wd208
theorem wd209 : (.fieldLink "RollingBalls$Ball" 15 "RollingBalls$Ball" "house" "LRollingBalls$House;" : Cond) ∈ gT := List.mem_filter.mpr ⟨List.mem_of_getElem? (i := 209) (by decide +kernel), (by decide +kernel)⟩
theorem we209 {c1 : Cond} : (.fieldLink "RollingBalls$Ball" 15 "RollingBalls$Ball" "house" "LRollingBalls$House;" : Cond) ∈ c1 :: gT := List.mem_cons_of_mem _ wd209
theorem wd210 : (.fieldLink "RollingBalls$Ball" 19 "RollingBalls$Ball" "\x72" "I" : Cond) ∈ gT := List.mem_filter.mpr ⟨List.mem_of_getElem? (i := 210) (by decide +kernel), (by decide +kernel)⟩
theorem we210 {c1 : Cond} : (.fieldLink "RollingBalls$Ball" 19 "RollingBalls$Ball" "\x72" "I" : Cond) ∈ c1 :: gT := List.mem_cons_of_mem _ wd210
theorem wd211 : (.fieldLink "RollingBalls$Ball" 33 "RollingBalls$Ball" "placesAcross" "I" : Cond) ∈ gT := List.mem_filter.mpr ⟨List.mem_of_getElem? (i := 211) (by decide +kernel), (by decide +kernel)⟩
theorem we211 {c1 : Cond} : (.fieldLink "RollingBalls$Ball" 33 "RollingBalls$Ball" "placesAcross" "I" : Cond) ∈ c1 :: gT := List.mem_cons_of_mem _ wd211
theorem wd212 : (.fieldLink "RollingBalls$Ball" 67 "RollingBalls$Ball" "touchCounts" "[I" : Cond) ∈ gT := List.mem_filter.mpr ⟨List.mem_of_getElem? (i := 212) (by decide +kernel), (by decide +kernel)⟩
theorem we212 {c1 : Cond} : (.fieldLink "RollingBalls$Ball" 67 "RollingBalls$Ball" "touchCounts" "[I" : Cond) ∈ c1 :: gT := List.mem_cons_of_mem _ wd212
theorem wd213 : (.laysFinal "RollingBalls$Ball" "RollingBalls$Ball" "shadow" "LRollingBalls$Shadow;" : Cond) ∈ gT := List.mem_filter.mpr ⟨List.mem_of_getElem? (i := 213) (by decide +kernel), (by decide +kernel)⟩
theorem we213 {c1 : Cond} : (.laysFinal "RollingBalls$Ball" "RollingBalls$Ball" "shadow" "LRollingBalls$Shadow;" : Cond) ∈ c1 :: gT := List.mem_cons_of_mem _ wd213
theorem wd215 : (.laysFinal "RollingBalls$Ball" "RollingBalls$Ball" "homes" "[I" : Cond) ∈ gT := List.mem_filter.mpr ⟨List.mem_of_getElem? (i := 215) (by decide +kernel), (by decide +kernel)⟩
theorem we215 {c1 : Cond} : (.laysFinal "RollingBalls$Ball" "RollingBalls$Ball" "homes" "[I" : Cond) ∈ c1 :: gT := List.mem_cons_of_mem _ wd215
theorem wd217 : (.laysFinal "RollingBalls$Ball" "RollingBalls$Ball" "rests" "[I" : Cond) ∈ gT := List.mem_filter.mpr ⟨List.mem_of_getElem? (i := 217) (by decide +kernel), (by decide +kernel)⟩
theorem we217 {c1 : Cond} : (.laysFinal "RollingBalls$Ball" "RollingBalls$Ball" "rests" "[I" : Cond) ∈ c1 :: gT := List.mem_cons_of_mem _ wd217
theorem wd219 : (.laysFinal "RollingBalls$Ball" "RollingBalls$Ball" "ground" "I" : Cond) ∈ gT := List.mem_filter.mpr ⟨List.mem_of_getElem? (i := 219) (by decide +kernel), (by decide +kernel)⟩
theorem we219 {c1 : Cond} : (.laysFinal "RollingBalls$Ball" "RollingBalls$Ball" "ground" "I" : Cond) ∈ c1 :: gT := List.mem_cons_of_mem _ wd219
theorem wd221 : (.laysFinal "RollingBalls$Ball" "RollingBalls$Ball" "owners" "[I" : Cond) ∈ gT := List.mem_filter.mpr ⟨List.mem_of_getElem? (i := 221) (by decide +kernel), (by decide +kernel)⟩
theorem we221 {c1 : Cond} : (.laysFinal "RollingBalls$Ball" "RollingBalls$Ball" "owners" "[I" : Cond) ∈ c1 :: gT := List.mem_cons_of_mem _ wd221
theorem wd223 : (.laysFinal "RollingBalls$Ball" "RollingBalls$Ball" "hitCounts" "[I" : Cond) ∈ gT := List.mem_filter.mpr ⟨List.mem_of_getElem? (i := 223) (by decide +kernel), (by decide +kernel)⟩
theorem we223 {c1 : Cond} : (.laysFinal "RollingBalls$Ball" "RollingBalls$Ball" "hitCounts" "[I" : Cond) ∈ c1 :: gT := List.mem_cons_of_mem _ wd223
theorem wd225 : (.laysFinal "RollingBalls$Ball" "RollingBalls$Ball" "listed" "[I" : Cond) ∈ gT := List.mem_filter.mpr ⟨List.mem_of_getElem? (i := 225) (by decide +kernel), (by decide +kernel)⟩
theorem we225 {c1 : Cond} : (.laysFinal "RollingBalls$Ball" "RollingBalls$Ball" "listed" "[I" : Cond) ∈ c1 :: gT := List.mem_cons_of_mem _ wd225
theorem wd227 : (.lays "RollingBalls$Ball" "RollingBalls$Ball" "listedCount" "I" : Cond) ∈ gT := List.mem_filter.mpr ⟨List.mem_of_getElem? (i := 227) (by decide +kernel), (by decide +kernel)⟩
theorem we227 {c1 : Cond} : (.lays "RollingBalls$Ball" "RollingBalls$Ball" "listedCount" "I" : Cond) ∈ c1 :: gT := List.mem_cons_of_mem _ wd227
theorem wd229 : (.laysFinal "RollingBalls$Ball" "RollingBalls$Ball" "house" "LRollingBalls$House;" : Cond) ∈ gT := List.mem_filter.mpr ⟨List.mem_of_getElem? (i := 229) (by decide +kernel), (by decide +kernel)⟩
theorem we229 {c1 : Cond} : (.laysFinal "RollingBalls$Ball" "RollingBalls$Ball" "house" "LRollingBalls$House;" : Cond) ∈ c1 :: gT := List.mem_cons_of_mem _ wd229
theorem wd231 : (.laysFinal "RollingBalls$Ball" "RollingBalls$Ball" "\x72" "I" : Cond) ∈ gT := List.mem_filter.mpr ⟨List.mem_of_getElem? (i := 231) (by decide +kernel), (by decide +kernel)⟩
theorem we231 {c1 : Cond} : (.laysFinal "RollingBalls$Ball" "RollingBalls$Ball" "\x72" "I" : Cond) ∈ c1 :: gT := List.mem_cons_of_mem _ wd231
theorem wd233 : (.laysFinal "RollingBalls$Ball" "RollingBalls$Ball" "placesAcross" "I" : Cond) ∈ gT := List.mem_filter.mpr ⟨List.mem_of_getElem? (i := 233) (by decide +kernel), (by decide +kernel)⟩
theorem we233 {c1 : Cond} : (.laysFinal "RollingBalls$Ball" "RollingBalls$Ball" "placesAcross" "I" : Cond) ∈ c1 :: gT := List.mem_cons_of_mem _ wd233
theorem wd235 : (.laysFinal "RollingBalls$Ball" "RollingBalls$Ball" "touchCounts" "[I" : Cond) ∈ gT := List.mem_filter.mpr ⟨List.mem_of_getElem? (i := 235) (by decide +kernel), (by decide +kernel)⟩
theorem we235 {c1 : Cond} : (.laysFinal "RollingBalls$Ball" "RollingBalls$Ball" "touchCounts" "[I" : Cond) ∈ c1 :: gT := List.mem_cons_of_mem _ wd235
theorem wd238 : (.classLink "RollingBalls" 41 "RollingBalls$Plan" : Cond) ∈ gT := List.mem_filter.mpr ⟨List.mem_of_getElem? (i := 238) (by decide +kernel), (by decide +kernel)⟩
theorem we238 {c1 : Cond} : (.classLink "RollingBalls" 41 "RollingBalls$Plan" : Cond) ∈ c1 :: gT := List.mem_cons_of_mem _ wd238
theorem wd239 : (.instantiable "RollingBalls$Plan" 12 : Cond) ∈ gT := List.mem_filter.mpr ⟨List.mem_of_getElem? (i := 239) (by decide +kernel), (by decide +kernel)⟩
theorem we239 {c1 : Cond} : (.instantiable "RollingBalls$Plan" 12 : Cond) ∈ c1 :: gT := List.mem_cons_of_mem _ wd239
theorem wd240 : (.methodLink "RollingBalls" 43 ⟨"RollingBalls$Plan", "<init>", "(LRollingBalls$House;LRollingBalls$Ball;)V"⟩ : Cond) ∈ gT := List.mem_filter.mpr ⟨List.mem_of_getElem? (i := 240) (by decide +kernel), (by decide +kernel)⟩
theorem we240 {c1 : Cond} : (.methodLink "RollingBalls" 43 ⟨"RollingBalls$Plan", "<init>", "(LRollingBalls$House;LRollingBalls$Ball;)V"⟩ : Cond) ∈ c1 :: gT := List.mem_cons_of_mem _ wd240
theorem wd241 : (.instanceMethod ⟨"RollingBalls$Plan", "<init>", "(LRollingBalls$House;LRollingBalls$Ball;)V"⟩ : Cond) ∈ gT := List.mem_filter.mpr ⟨List.mem_of_getElem? (i := 241) (by decide +kernel), (by decide +kernel)⟩
theorem we241 {c1 : Cond} : (.instanceMethod ⟨"RollingBalls$Plan", "<init>", "(LRollingBalls$House;LRollingBalls$Ball;)V"⟩ : Cond) ∈ c1 :: gT := List.mem_cons_of_mem _ wd241
theorem wd242 : (.code ⟨"RollingBalls$Plan", "<init>", "(LRollingBalls$House;LRollingBalls$Ball;)V"⟩ prog_5_method_1_code 3 none : Cond) ∈ gT := List.mem_filter.mpr ⟨List.mem_of_getElem? (i := 242) (by decide +kernel), (by decide +kernel)⟩
theorem we242 {c1 : Cond} : (.code ⟨"RollingBalls$Plan", "<init>", "(LRollingBalls$House;LRollingBalls$Ball;)V"⟩ prog_5_method_1_code 3 none : Cond) ∈ c1 :: gT := List.mem_cons_of_mem _ wd242
theorem wd243 : (.methodLink "RollingBalls$Plan" 5 ⟨"java/lang/Object", "<init>", "()V"⟩ : Cond) ∈ gT := List.mem_filter.mpr ⟨List.mem_of_getElem? (i := 243) (by decide +kernel), (by decide +kernel)⟩
theorem we243 {c1 : Cond} : (.methodLink "RollingBalls$Plan" 5 ⟨"java/lang/Object", "<init>", "()V"⟩ : Cond) ∈ c1 :: gT := List.mem_cons_of_mem _ wd243
theorem wd244 : (.fieldLink "RollingBalls$Plan" 11 "RollingBalls$Plan" "candidatePoints" "[I" : Cond) ∈ gT := List.mem_filter.mpr ⟨List.mem_of_getElem? (i := 244) (by decide +kernel), (by decide +kernel)⟩
theorem we244 {c1 : Cond} : (.fieldLink "RollingBalls$Plan" 11 "RollingBalls$Plan" "candidatePoints" "[I" : Cond) ∈ c1 :: gT := List.mem_cons_of_mem _ wd244
theorem wd245 : (.fieldLink "RollingBalls" 169 "RollingBalls$Plan" "candidatePoints" "[I" : Cond) ∈ gT := List.mem_filter.mpr ⟨List.mem_of_getElem? (i := 245) (by decide +kernel), (by decide +kernel)⟩
theorem we245 {c1 : Cond} : (.fieldLink "RollingBalls" 169 "RollingBalls$Plan" "candidatePoints" "[I" : Cond) ∈ c1 :: gT := List.mem_cons_of_mem _ wd245
theorem wd246 : (.fieldLink "RollingBalls$Plan" 15 "RollingBalls$Plan" "candidateLengths" "[I" : Cond) ∈ gT := List.mem_filter.mpr ⟨List.mem_of_getElem? (i := 246) (by decide +kernel), (by decide +kernel)⟩
theorem we246 {c1 : Cond} : (.fieldLink "RollingBalls$Plan" 15 "RollingBalls$Plan" "candidateLengths" "[I" : Cond) ∈ c1 :: gT := List.mem_cons_of_mem _ wd246
theorem wd247 : (.fieldLink "RollingBalls" 172 "RollingBalls$Plan" "candidateLengths" "[I" : Cond) ∈ gT := List.mem_filter.mpr ⟨List.mem_of_getElem? (i := 247) (by decide +kernel), (by decide +kernel)⟩
theorem we247 {c1 : Cond} : (.fieldLink "RollingBalls" 172 "RollingBalls$Plan" "candidateLengths" "[I" : Cond) ∈ c1 :: gT := List.mem_cons_of_mem _ wd247
theorem wd248 : (.fieldLink "RollingBalls$Plan" 18 "RollingBalls$Plan" "candidates" "I" : Cond) ∈ gT := List.mem_filter.mpr ⟨List.mem_of_getElem? (i := 248) (by decide +kernel), (by decide +kernel)⟩
theorem we248 {c1 : Cond} : (.fieldLink "RollingBalls$Plan" 18 "RollingBalls$Plan" "candidates" "I" : Cond) ∈ c1 :: gT := List.mem_cons_of_mem _ wd248
theorem wd249 : (.fieldLink "RollingBalls" 156 "RollingBalls$Plan" "candidates" "I" : Cond) ∈ gT := List.mem_filter.mpr ⟨List.mem_of_getElem? (i := 249) (by decide +kernel), (by decide +kernel)⟩
theorem we249 {c1 : Cond} : (.fieldLink "RollingBalls" 156 "RollingBalls$Plan" "candidates" "I" : Cond) ∈ c1 :: gT := List.mem_cons_of_mem _ wd249
theorem wd250 : (.fieldLink "RollingBalls$Plan" 50 "RollingBalls$Plan" "wanted" "[Z" : Cond) ∈ gT := List.mem_filter.mpr ⟨List.mem_of_getElem? (i := 250) (by decide +kernel), (by decide +kernel)⟩
theorem we250 {c1 : Cond} : (.fieldLink "RollingBalls$Plan" 50 "RollingBalls$Plan" "wanted" "[Z" : Cond) ∈ c1 :: gT := List.mem_cons_of_mem _ wd250
theorem wd251 : (.fieldLink "RollingBalls" 159 "RollingBalls$Plan" "wanted" "[Z" : Cond) ∈ gT := List.mem_filter.mpr ⟨List.mem_of_getElem? (i := 251) (by decide +kernel), (by decide +kernel)⟩
theorem we251 {c1 : Cond} : (.fieldLink "RollingBalls" 159 "RollingBalls$Plan" "wanted" "[Z" : Cond) ∈ c1 :: gT := List.mem_cons_of_mem _ wd251
theorem wd252 : (.fieldLink "RollingBalls$Plan" 37 "RollingBalls$Plan" "house" "LRollingBalls$House;" : Cond) ∈ gT := List.mem_filter.mpr ⟨List.mem_of_getElem? (i := 252) (by decide +kernel), (by decide +kernel)⟩
theorem we252 {c1 : Cond} : (.fieldLink "RollingBalls$Plan" 37 "RollingBalls$Plan" "house" "LRollingBalls$House;" : Cond) ∈ c1 :: gT := List.mem_cons_of_mem _ wd252
theorem wd253 : (.fieldLink "RollingBalls$Plan" 41 "RollingBalls$Plan" "ball" "LRollingBalls$Ball;" : Cond) ∈ gT := List.mem_filter.mpr ⟨List.mem_of_getElem? (i := 253) (by decide +kernel), (by decide +kernel)⟩
theorem we253 {c1 : Cond} : (.fieldLink "RollingBalls$Plan" 41 "RollingBalls$Plan" "ball" "LRollingBalls$Ball;" : Cond) ∈ c1 :: gT := List.mem_cons_of_mem _ wd253
theorem wd254 : (.fieldLink "RollingBalls$Plan" 22 "RollingBalls$Plan" "choicePoints" "[I" : Cond) ∈ gT := List.mem_filter.mpr ⟨List.mem_of_getElem? (i := 254) (by decide +kernel), (by decide +kernel)⟩
theorem we254 {c1 : Cond} : (.fieldLink "RollingBalls$Plan" 22 "RollingBalls$Plan" "choicePoints" "[I" : Cond) ∈ c1 :: gT := List.mem_cons_of_mem _ wd254
theorem wd255 : (.fieldLink "RollingBalls$Plan" 25 "RollingBalls$Plan" "choiceTips" "[I" : Cond) ∈ gT := List.mem_filter.mpr ⟨List.mem_of_getElem? (i := 255) (by decide +kernel), (by decide +kernel)⟩
theorem we255 {c1 : Cond} : (.fieldLink "RollingBalls$Plan" 25 "RollingBalls$Plan" "choiceTips" "[I" : Cond) ∈ c1 :: gT := List.mem_cons_of_mem _ wd255
theorem wd256 : (.fieldLink "RollingBalls$Plan" 28 "RollingBalls$Plan" "choiceSets" "[I" : Cond) ∈ gT := List.mem_filter.mpr ⟨List.mem_of_getElem? (i := 256) (by decide +kernel), (by decide +kernel)⟩
theorem we256 {c1 : Cond} : (.fieldLink "RollingBalls$Plan" 28 "RollingBalls$Plan" "choiceSets" "[I" : Cond) ∈ c1 :: gT := List.mem_cons_of_mem _ wd256
theorem wd257 : (.fieldLink "RollingBalls$Plan" 31 "RollingBalls$Plan" "choices" "I" : Cond) ∈ gT := List.mem_filter.mpr ⟨List.mem_of_getElem? (i := 257) (by decide +kernel), (by decide +kernel)⟩
theorem we257 {c1 : Cond} : (.fieldLink "RollingBalls$Plan" 31 "RollingBalls$Plan" "choices" "I" : Cond) ∈ c1 :: gT := List.mem_cons_of_mem _ wd257
theorem wd258 : (.fieldLink "RollingBalls$Plan" 34 "RollingBalls$Plan" "sinkingSets" "I" : Cond) ∈ gT := List.mem_filter.mpr ⟨List.mem_of_getElem? (i := 258) (by decide +kernel), (by decide +kernel)⟩
theorem we258 {c1 : Cond} : (.fieldLink "RollingBalls$Plan" 34 "RollingBalls$Plan" "sinkingSets" "I" : Cond) ∈ c1 :: gT := List.mem_cons_of_mem _ wd258
theorem wd259 : (.fieldLink "RollingBalls$Plan" 54 "RollingBalls$Plan" "lowTips" "[I" : Cond) ∈ gT := List.mem_filter.mpr ⟨List.mem_of_getElem? (i := 259) (by decide +kernel), (by decide +kernel)⟩
theorem we259 {c1 : Cond} : (.fieldLink "RollingBalls$Plan" 54 "RollingBalls$Plan" "lowTips" "[I" : Cond) ∈ c1 :: gT := List.mem_cons_of_mem _ wd259
theorem wd260 : (.laysFinal "RollingBalls$Plan" "RollingBalls$Plan" "candidatePoints" "[I" : Cond) ∈ gT := List.mem_filter.mpr ⟨List.mem_of_getElem? (i := 260) (by decide +kernel), (by decide +kernel)⟩
theorem we260 {c1 : Cond} : (.laysFinal "RollingBalls$Plan" "RollingBalls$Plan" "candidatePoints" "[I" : Cond) ∈ c1 :: gT := List.mem_cons_of_mem _ wd260
theorem wd262 : (.laysFinal "RollingBalls$Plan" "RollingBalls$Plan" "candidateLengths" "[I" : Cond) ∈ gT := List.mem_filter.mpr ⟨List.mem_of_getElem? (i := 262) (by decide +kernel), (by decide +kernel)⟩
theorem we262 {c1 : Cond} : (.laysFinal "RollingBalls$Plan" "RollingBalls$Plan" "candidateLengths" "[I" : Cond) ∈ c1 :: gT := List.mem_cons_of_mem _ wd262
theorem wd264 : (.lays "RollingBalls$Plan" "RollingBalls$Plan" "candidates" "I" : Cond) ∈ gT := List.mem_filter.mpr ⟨List.mem_of_getElem? (i := 264) (by decide +kernel), (by decide +kernel)⟩
theorem we264 {c1 : Cond} : (.lays "RollingBalls$Plan" "RollingBalls$Plan" "candidates" "I" : Cond) ∈ c1 :: gT := List.mem_cons_of_mem _ wd264
theorem wd266 : (.laysFinal "RollingBalls$Plan" "RollingBalls$Plan" "wanted" "[Z" : Cond) ∈ gT := List.mem_filter.mpr ⟨List.mem_of_getElem? (i := 266) (by decide +kernel), (by decide +kernel)⟩
theorem we266 {c1 : Cond} : (.laysFinal "RollingBalls$Plan" "RollingBalls$Plan" "wanted" "[Z" : Cond) ∈ c1 :: gT := List.mem_cons_of_mem _ wd266
theorem wd268 : (.laysFinal "RollingBalls$Plan" "RollingBalls$Plan" "house" "LRollingBalls$House;" : Cond) ∈ gT := List.mem_filter.mpr ⟨List.mem_of_getElem? (i := 268) (by decide +kernel), (by decide +kernel)⟩
theorem we268 {c1 : Cond} : (.laysFinal "RollingBalls$Plan" "RollingBalls$Plan" "house" "LRollingBalls$House;" : Cond) ∈ c1 :: gT := List.mem_cons_of_mem _ wd268
theorem wd270 : (.laysFinal "RollingBalls$Plan" "RollingBalls$Plan" "ball" "LRollingBalls$Ball;" : Cond) ∈ gT := List.mem_filter.mpr ⟨List.mem_of_getElem? (i := 270) (by decide +kernel), (by decide +kernel)⟩
theorem we270 {c1 : Cond} : (.laysFinal "RollingBalls$Plan" "RollingBalls$Plan" "ball" "LRollingBalls$Ball;" : Cond) ∈ c1 :: gT := List.mem_cons_of_mem _ wd270
theorem wd272 : (.laysFinal "RollingBalls$Plan" "RollingBalls$Plan" "choicePoints" "[I" : Cond) ∈ gT := List.mem_filter.mpr ⟨List.mem_of_getElem? (i := 272) (by decide +kernel), (by decide +kernel)⟩
theorem we272 {c1 : Cond} : (.laysFinal "RollingBalls$Plan" "RollingBalls$Plan" "choicePoints" "[I" : Cond) ∈ c1 :: gT := List.mem_cons_of_mem _ wd272
theorem wd274 : (.laysFinal "RollingBalls$Plan" "RollingBalls$Plan" "choiceTips" "[I" : Cond) ∈ gT := List.mem_filter.mpr ⟨List.mem_of_getElem? (i := 274) (by decide +kernel), (by decide +kernel)⟩
theorem we274 {c1 : Cond} : (.laysFinal "RollingBalls$Plan" "RollingBalls$Plan" "choiceTips" "[I" : Cond) ∈ c1 :: gT := List.mem_cons_of_mem _ wd274
theorem wd276 : (.laysFinal "RollingBalls$Plan" "RollingBalls$Plan" "choiceSets" "[I" : Cond) ∈ gT := List.mem_filter.mpr ⟨List.mem_of_getElem? (i := 276) (by decide +kernel), (by decide +kernel)⟩
theorem we276 {c1 : Cond} : (.laysFinal "RollingBalls$Plan" "RollingBalls$Plan" "choiceSets" "[I" : Cond) ∈ c1 :: gT := List.mem_cons_of_mem _ wd276
theorem wd278 : (.lays "RollingBalls$Plan" "RollingBalls$Plan" "choices" "I" : Cond) ∈ gT := List.mem_filter.mpr ⟨List.mem_of_getElem? (i := 278) (by decide +kernel), (by decide +kernel)⟩
theorem we278 {c1 : Cond} : (.lays "RollingBalls$Plan" "RollingBalls$Plan" "choices" "I" : Cond) ∈ c1 :: gT := List.mem_cons_of_mem _ wd278
theorem wd280 : (.lays "RollingBalls$Plan" "RollingBalls$Plan" "sinkingSets" "I" : Cond) ∈ gT := List.mem_filter.mpr ⟨List.mem_of_getElem? (i := 280) (by decide +kernel), (by decide +kernel)⟩
theorem we280 {c1 : Cond} : (.lays "RollingBalls$Plan" "RollingBalls$Plan" "sinkingSets" "I" : Cond) ∈ c1 :: gT := List.mem_cons_of_mem _ wd280
theorem wd282 : (.laysFinal "RollingBalls$Plan" "RollingBalls$Plan" "lowTips" "[I" : Cond) ∈ gT := List.mem_filter.mpr ⟨List.mem_of_getElem? (i := 282) (by decide +kernel), (by decide +kernel)⟩
theorem we282 {c1 : Cond} : (.laysFinal "RollingBalls$Plan" "RollingBalls$Plan" "lowTips" "[I" : Cond) ∈ c1 :: gT := List.mem_cons_of_mem _ wd282
theorem wd285 : (.arrayClass .boolean : Cond) ∈ gT := List.mem_filter.mpr ⟨List.mem_of_getElem? (i := 285) (by decide +kernel), (by decide +kernel)⟩
theorem we285 {c1 : Cond} : (.arrayClass .boolean : Cond) ∈ c1 :: gT := List.mem_cons_of_mem _ wd285
theorem wd286 : (.fieldLink "RollingBalls" 13 "RollingBalls" "w" "I" : Cond) ∈ gT := List.mem_filter.mpr ⟨List.mem_of_getElem? (i := 286) (by decide +kernel), (by decide +kernel)⟩
theorem we286 {c1 : Cond} : (.fieldLink "RollingBalls" 13 "RollingBalls" "w" "I" : Cond) ∈ c1 :: gT := List.mem_cons_of_mem _ wd286
theorem wd287 : (.fieldLink "RollingBalls" 17 "RollingBalls" "d" "I" : Cond) ∈ gT := List.mem_filter.mpr ⟨List.mem_of_getElem? (i := 287) (by decide +kernel), (by decide +kernel)⟩
theorem we287 {c1 : Cond} : (.fieldLink "RollingBalls" 17 "RollingBalls" "d" "I" : Cond) ∈ c1 :: gT := List.mem_cons_of_mem _ wd287
theorem wd288 : (.fieldLink "RollingBalls" 20 "RollingBalls" "\x72" "I" : Cond) ∈ gT := List.mem_filter.mpr ⟨List.mem_of_getElem? (i := 288) (by decide +kernel), (by decide +kernel)⟩
theorem we288 {c1 : Cond} : (.fieldLink "RollingBalls" 20 "RollingBalls" "\x72" "I" : Cond) ∈ c1 :: gT := List.mem_cons_of_mem _ wd288
theorem wd289 : (.fieldLink "RollingBalls" 28 "RollingBalls" "house" "LRollingBalls$House;" : Cond) ∈ gT := List.mem_filter.mpr ⟨List.mem_of_getElem? (i := 289) (by decide +kernel), (by decide +kernel)⟩
theorem we289 {c1 : Cond} : (.fieldLink "RollingBalls" 28 "RollingBalls" "house" "LRollingBalls$House;" : Cond) ∈ c1 :: gT := List.mem_cons_of_mem _ wd289
theorem wd290 : (.fieldLink "RollingBalls" 37 "RollingBalls" "ball" "LRollingBalls$Ball;" : Cond) ∈ gT := List.mem_filter.mpr ⟨List.mem_of_getElem? (i := 290) (by decide +kernel), (by decide +kernel)⟩
theorem we290 {c1 : Cond} : (.fieldLink "RollingBalls" 37 "RollingBalls" "ball" "LRollingBalls$Ball;" : Cond) ∈ c1 :: gT := List.mem_cons_of_mem _ wd290
theorem wd291 : (.fieldLink "RollingBalls" 46 "RollingBalls" "plan" "LRollingBalls$Plan;" : Cond) ∈ gT := List.mem_filter.mpr ⟨List.mem_of_getElem? (i := 291) (by decide +kernel), (by decide +kernel)⟩
theorem we291 {c1 : Cond} : (.fieldLink "RollingBalls" 46 "RollingBalls" "plan" "LRollingBalls$Plan;" : Cond) ∈ c1 :: gT := List.mem_cons_of_mem _ wd291
theorem wd292 : (.fieldLink "RollingBalls" 53 "RollingBalls" "safeBefore" "[Z" : Cond) ∈ gT := List.mem_filter.mpr ⟨List.mem_of_getElem? (i := 292) (by decide +kernel), (by decide +kernel)⟩
theorem we292 {c1 : Cond} : (.fieldLink "RollingBalls" 53 "RollingBalls" "safeBefore" "[Z" : Cond) ∈ c1 :: gT := List.mem_cons_of_mem _ wd292
theorem wd293 : (.laysFinal "RollingBalls" "RollingBalls" "w" "I" : Cond) ∈ gT := List.mem_filter.mpr ⟨List.mem_of_getElem? (i := 293) (by decide +kernel), (by decide +kernel)⟩
theorem we293 {c1 : Cond} : (.laysFinal "RollingBalls" "RollingBalls" "w" "I" : Cond) ∈ c1 :: gT := List.mem_cons_of_mem _ wd293
theorem wd295 : (.laysFinal "RollingBalls" "RollingBalls" "d" "I" : Cond) ∈ gT := List.mem_filter.mpr ⟨List.mem_of_getElem? (i := 295) (by decide +kernel), (by decide +kernel)⟩
theorem we295 {c1 : Cond} : (.laysFinal "RollingBalls" "RollingBalls" "d" "I" : Cond) ∈ c1 :: gT := List.mem_cons_of_mem _ wd295
theorem wd297 : (.laysFinal "RollingBalls" "RollingBalls" "\x72" "I" : Cond) ∈ gT := List.mem_filter.mpr ⟨List.mem_of_getElem? (i := 297) (by decide +kernel), (by decide +kernel)⟩
theorem we297 {c1 : Cond} : (.laysFinal "RollingBalls" "RollingBalls" "\x72" "I" : Cond) ∈ c1 :: gT := List.mem_cons_of_mem _ wd297
theorem wd299 : (.laysFinal "RollingBalls" "RollingBalls" "house" "LRollingBalls$House;" : Cond) ∈ gT := List.mem_filter.mpr ⟨List.mem_of_getElem? (i := 299) (by decide +kernel), (by decide +kernel)⟩
theorem we299 {c1 : Cond} : (.laysFinal "RollingBalls" "RollingBalls" "house" "LRollingBalls$House;" : Cond) ∈ c1 :: gT := List.mem_cons_of_mem _ wd299
theorem wd301 : (.laysFinal "RollingBalls" "RollingBalls" "ball" "LRollingBalls$Ball;" : Cond) ∈ gT := List.mem_filter.mpr ⟨List.mem_of_getElem? (i := 301) (by decide +kernel), (by decide +kernel)⟩
theorem we301 {c1 : Cond} : (.laysFinal "RollingBalls" "RollingBalls" "ball" "LRollingBalls$Ball;" : Cond) ∈ c1 :: gT := List.mem_cons_of_mem _ wd301
theorem wd303 : (.laysFinal "RollingBalls" "RollingBalls" "plan" "LRollingBalls$Plan;" : Cond) ∈ gT := List.mem_filter.mpr ⟨List.mem_of_getElem? (i := 303) (by decide +kernel), (by decide +kernel)⟩
theorem we303 {c1 : Cond} : (.laysFinal "RollingBalls" "RollingBalls" "plan" "LRollingBalls$Plan;" : Cond) ∈ c1 :: gT := List.mem_cons_of_mem _ wd303
theorem wd305 : (.laysFinal "RollingBalls" "RollingBalls" "safeBefore" "[Z" : Cond) ∈ gT := List.mem_filter.mpr ⟨List.mem_of_getElem? (i := 305) (by decide +kernel), (by decide +kernel)⟩
theorem we305 {c1 : Cond} : (.laysFinal "RollingBalls" "RollingBalls" "safeBefore" "[Z" : Cond) ∈ c1 :: gT := List.mem_cons_of_mem _ wd305
theorem wd308 : (.methodLink "RollingBallsLaw" 81 ⟨"RollingBalls", "tops", "()I"⟩ : Cond) ∈ gT := List.mem_filter.mpr ⟨List.mem_of_getElem? (i := 308) (by decide +kernel), (by decide +kernel)⟩
theorem we308 {c1 : Cond} : (.methodLink "RollingBallsLaw" 81 ⟨"RollingBalls", "tops", "()I"⟩ : Cond) ∈ c1 :: gT := List.mem_cons_of_mem _ wd308
theorem wd309 : (.instanceMethod ⟨"RollingBalls", "tops", "()I"⟩ : Cond) ∈ gT := List.mem_filter.mpr ⟨List.mem_of_getElem? (i := 309) (by decide +kernel), (by decide +kernel)⟩
theorem we309 {c1 : Cond} : (.instanceMethod ⟨"RollingBalls", "tops", "()I"⟩ : Cond) ∈ c1 :: gT := List.mem_cons_of_mem _ wd309
theorem wd310 : (.selects "RollingBalls" ⟨"RollingBalls", "tops", "()I"⟩ ⟨"RollingBalls", "tops", "()I"⟩ : Cond) ∈ gT := List.mem_filter.mpr ⟨List.mem_of_getElem? (i := 310) (by decide +kernel), (by decide +kernel)⟩
theorem we310 {c1 : Cond} : (.selects "RollingBalls" ⟨"RollingBalls", "tops", "()I"⟩ ⟨"RollingBalls", "tops", "()I"⟩ : Cond) ∈ c1 :: gT := List.mem_cons_of_mem _ wd310
theorem wd311 : (.code ⟨"RollingBalls", "tops", "()I"⟩ prog_1_method_7_code 1 (some .int) : Cond) ∈ gT := List.mem_filter.mpr ⟨List.mem_of_getElem? (i := 311) (by decide +kernel), (by decide +kernel)⟩
theorem we311 {c1 : Cond} : (.code ⟨"RollingBalls", "tops", "()I"⟩ prog_1_method_7_code 1 (some .int) : Cond) ∈ c1 :: gT := List.mem_cons_of_mem _ wd311
theorem wd312 : (.methodLink "RollingBalls" 131 ⟨"RollingBalls$Ball", "countHighestPlaces", "()I"⟩ : Cond) ∈ gT := List.mem_filter.mpr ⟨List.mem_of_getElem? (i := 312) (by decide +kernel), (by decide +kernel)⟩
theorem we312 {c1 : Cond} : (.methodLink "RollingBalls" 131 ⟨"RollingBalls$Ball", "countHighestPlaces", "()I"⟩ : Cond) ∈ c1 :: gT := List.mem_cons_of_mem _ wd312
theorem wd313 : (.instanceMethod ⟨"RollingBalls$Ball", "countHighestPlaces", "()I"⟩ : Cond) ∈ gT := List.mem_filter.mpr ⟨List.mem_of_getElem? (i := 313) (by decide +kernel), (by decide +kernel)⟩
theorem we313 {c1 : Cond} : (.instanceMethod ⟨"RollingBalls$Ball", "countHighestPlaces", "()I"⟩ : Cond) ∈ c1 :: gT := List.mem_cons_of_mem _ wd313
theorem wd314 : (.selects "RollingBalls$Ball" ⟨"RollingBalls$Ball", "countHighestPlaces", "()I"⟩ ⟨"RollingBalls$Ball", "countHighestPlaces", "()I"⟩ : Cond) ∈ gT := List.mem_filter.mpr ⟨List.mem_of_getElem? (i := 314) (by decide +kernel), (by decide +kernel)⟩
theorem we314 {c1 : Cond} : (.selects "RollingBalls$Ball" ⟨"RollingBalls$Ball", "countHighestPlaces", "()I"⟩ ⟨"RollingBalls$Ball", "countHighestPlaces", "()I"⟩ : Cond) ∈ c1 :: gT := List.mem_cons_of_mem _ wd314
theorem wd315 : (.code ⟨"RollingBalls$Ball", "countHighestPlaces", "()I"⟩ prog_2_method_6_code 7 (some .int) : Cond) ∈ gT := List.mem_filter.mpr ⟨List.mem_of_getElem? (i := 315) (by decide +kernel), (by decide +kernel)⟩
theorem we315 {c1 : Cond} : (.code ⟨"RollingBalls$Ball", "countHighestPlaces", "()I"⟩ prog_2_method_6_code 7 (some .int) : Cond) ∈ c1 :: gT := List.mem_cons_of_mem _ wd315
theorem wd316 : (.methodLink "RollingBallsLaw" 99 ⟨"RollingBalls", "forget", "()I"⟩ : Cond) ∈ gT := List.mem_filter.mpr ⟨List.mem_of_getElem? (i := 316) (by decide +kernel), (by decide +kernel)⟩
theorem we316 {c1 : Cond} : (.methodLink "RollingBallsLaw" 99 ⟨"RollingBalls", "forget", "()I"⟩ : Cond) ∈ c1 :: gT := List.mem_cons_of_mem _ wd316
theorem wd317 : (.instanceMethod ⟨"RollingBalls", "forget", "()I"⟩ : Cond) ∈ gT := List.mem_filter.mpr ⟨List.mem_of_getElem? (i := 317) (by decide +kernel), (by decide +kernel)⟩
theorem we317 {c1 : Cond} : (.instanceMethod ⟨"RollingBalls", "forget", "()I"⟩ : Cond) ∈ c1 :: gT := List.mem_cons_of_mem _ wd317
theorem wd318 : (.selects "RollingBalls" ⟨"RollingBalls", "forget", "()I"⟩ ⟨"RollingBalls", "forget", "()I"⟩ : Cond) ∈ gT := List.mem_filter.mpr ⟨List.mem_of_getElem? (i := 318) (by decide +kernel), (by decide +kernel)⟩
theorem we318 {c1 : Cond} : (.selects "RollingBalls" ⟨"RollingBalls", "forget", "()I"⟩ ⟨"RollingBalls", "forget", "()I"⟩ : Cond) ∈ c1 :: gT := List.mem_cons_of_mem _ wd318
theorem wd319 : (.code ⟨"RollingBalls", "forget", "()I"⟩ prog_1_method_12_code 2 (some .int) : Cond) ∈ gT := List.mem_filter.mpr ⟨List.mem_of_getElem? (i := 319) (by decide +kernel), (by decide +kernel)⟩
theorem we319 {c1 : Cond} : (.code ⟨"RollingBalls", "forget", "()I"⟩ prog_1_method_12_code 2 (some .int) : Cond) ∈ c1 :: gT := List.mem_cons_of_mem _ wd319
theorem wd320 : (.methodLink "RollingBallsLaw" 107 ⟨"RollingBalls", "choose", "()I"⟩ : Cond) ∈ gT := List.mem_filter.mpr ⟨List.mem_of_getElem? (i := 320) (by decide +kernel), (by decide +kernel)⟩
theorem we320 {c1 : Cond} : (.methodLink "RollingBallsLaw" 107 ⟨"RollingBalls", "choose", "()I"⟩ : Cond) ∈ c1 :: gT := List.mem_cons_of_mem _ wd320
theorem wd321 : (.instanceMethod ⟨"RollingBalls", "choose", "()I"⟩ : Cond) ∈ gT := List.mem_filter.mpr ⟨List.mem_of_getElem? (i := 321) (by decide +kernel), (by decide +kernel)⟩
theorem we321 {c1 : Cond} : (.instanceMethod ⟨"RollingBalls", "choose", "()I"⟩ : Cond) ∈ c1 :: gT := List.mem_cons_of_mem _ wd321
theorem wd322 : (.selects "RollingBalls" ⟨"RollingBalls", "choose", "()I"⟩ ⟨"RollingBalls", "choose", "()I"⟩ : Cond) ∈ gT := List.mem_filter.mpr ⟨List.mem_of_getElem? (i := 322) (by decide +kernel), (by decide +kernel)⟩
theorem we322 {c1 : Cond} : (.selects "RollingBalls" ⟨"RollingBalls", "choose", "()I"⟩ ⟨"RollingBalls", "choose", "()I"⟩ : Cond) ∈ c1 :: gT := List.mem_cons_of_mem _ wd322
theorem wd323 : (.code ⟨"RollingBalls", "choose", "()I"⟩ prog_1_method_14_code 1 (some .int) : Cond) ∈ gT := List.mem_filter.mpr ⟨List.mem_of_getElem? (i := 323) (by decide +kernel), (by decide +kernel)⟩
theorem we323 {c1 : Cond} : (.code ⟨"RollingBalls", "choose", "()I"⟩ prog_1_method_14_code 1 (some .int) : Cond) ∈ c1 :: gT := List.mem_cons_of_mem _ wd323
theorem wd324 : (.methodLink "RollingBalls" 162 ⟨"RollingBalls$Plan", "bestSet", "()I"⟩ : Cond) ∈ gT := List.mem_filter.mpr ⟨List.mem_of_getElem? (i := 324) (by decide +kernel), (by decide +kernel)⟩
theorem we324 {c1 : Cond} : (.methodLink "RollingBalls" 162 ⟨"RollingBalls$Plan", "bestSet", "()I"⟩ : Cond) ∈ c1 :: gT := List.mem_cons_of_mem _ wd324
theorem wd325 : (.instanceMethod ⟨"RollingBalls$Plan", "bestSet", "()I"⟩ : Cond) ∈ gT := List.mem_filter.mpr ⟨List.mem_of_getElem? (i := 325) (by decide +kernel), (by decide +kernel)⟩
theorem we325 {c1 : Cond} : (.instanceMethod ⟨"RollingBalls$Plan", "bestSet", "()I"⟩ : Cond) ∈ c1 :: gT := List.mem_cons_of_mem _ wd325
theorem wd326 : (.selects "RollingBalls$Plan" ⟨"RollingBalls$Plan", "bestSet", "()I"⟩ ⟨"RollingBalls$Plan", "bestSet", "()I"⟩ : Cond) ∈ gT := List.mem_filter.mpr ⟨List.mem_of_getElem? (i := 326) (by decide +kernel), (by decide +kernel)⟩
theorem we326 {c1 : Cond} : (.selects "RollingBalls$Plan" ⟨"RollingBalls$Plan", "bestSet", "()I"⟩ ⟨"RollingBalls$Plan", "bestSet", "()I"⟩ : Cond) ∈ c1 :: gT := List.mem_cons_of_mem _ wd326
theorem wd327 : (.code ⟨"RollingBalls$Plan", "bestSet", "()I"⟩ prog_5_method_5_code 4 (some .int) : Cond) ∈ gT := List.mem_filter.mpr ⟨List.mem_of_getElem? (i := 327) (by decide +kernel), (by decide +kernel)⟩
theorem we327 {c1 : Cond} : (.code ⟨"RollingBalls$Plan", "bestSet", "()I"⟩ prog_5_method_5_code 4 (some .int) : Cond) ∈ c1 :: gT := List.mem_cons_of_mem _ wd327
theorem wd328 : (.methodLink "RollingBalls$Plan" 57 ⟨"RollingBalls$Plan", "areWantedSafe", "()Z"⟩ : Cond) ∈ gT := List.mem_filter.mpr ⟨List.mem_of_getElem? (i := 328) (by decide +kernel), (by decide +kernel)⟩
theorem we328 {c1 : Cond} : (.methodLink "RollingBalls$Plan" 57 ⟨"RollingBalls$Plan", "areWantedSafe", "()Z"⟩ : Cond) ∈ c1 :: gT := List.mem_cons_of_mem _ wd328
theorem wd330 : (.instanceMethod ⟨"RollingBalls$Plan", "areWantedSafe", "()Z"⟩ : Cond) ∈ gT := List.mem_filter.mpr ⟨List.mem_of_getElem? (i := 330) (by decide +kernel), (by decide +kernel)⟩
theorem we330 {c1 : Cond} : (.instanceMethod ⟨"RollingBalls$Plan", "areWantedSafe", "()Z"⟩ : Cond) ∈ c1 :: gT := List.mem_cons_of_mem _ wd330
theorem wd331 : (.code ⟨"RollingBalls$Plan", "areWantedSafe", "()Z"⟩ prog_5_method_6_code 2 (some .boolean) : Cond) ∈ gT := List.mem_filter.mpr ⟨List.mem_of_getElem? (i := 331) (by decide +kernel), (by decide +kernel)⟩
theorem we331 {c1 : Cond} : (.code ⟨"RollingBalls$Plan", "areWantedSafe", "()Z"⟩ prog_5_method_6_code 2 (some .boolean) : Cond) ∈ c1 :: gT := List.mem_cons_of_mem _ wd331
theorem wd332 : (.methodLink "RollingBalls$Plan" 91 ⟨"RollingBalls$Ball", "isSafe", "(I)Z"⟩ : Cond) ∈ gT := List.mem_filter.mpr ⟨List.mem_of_getElem? (i := 332) (by decide +kernel), (by decide +kernel)⟩
theorem we332 {c1 : Cond} : (.methodLink "RollingBalls$Plan" 91 ⟨"RollingBalls$Ball", "isSafe", "(I)Z"⟩ : Cond) ∈ c1 :: gT := List.mem_cons_of_mem _ wd332
theorem wd333 : (.instanceMethod ⟨"RollingBalls$Ball", "isSafe", "(I)Z"⟩ : Cond) ∈ gT := List.mem_filter.mpr ⟨List.mem_of_getElem? (i := 333) (by decide +kernel), (by decide +kernel)⟩
theorem we333 {c1 : Cond} : (.instanceMethod ⟨"RollingBalls$Ball", "isSafe", "(I)Z"⟩ : Cond) ∈ c1 :: gT := List.mem_cons_of_mem _ wd333
theorem wd334 : (.selects "RollingBalls$Ball" ⟨"RollingBalls$Ball", "isSafe", "(I)Z"⟩ ⟨"RollingBalls$Ball", "isSafe", "(I)Z"⟩ : Cond) ∈ gT := List.mem_filter.mpr ⟨List.mem_of_getElem? (i := 334) (by decide +kernel), (by decide +kernel)⟩
theorem we334 {c1 : Cond} : (.selects "RollingBalls$Ball" ⟨"RollingBalls$Ball", "isSafe", "(I)Z"⟩ ⟨"RollingBalls$Ball", "isSafe", "(I)Z"⟩ : Cond) ∈ c1 :: gT := List.mem_cons_of_mem _ wd334
theorem wd335 : (.code ⟨"RollingBalls$Ball", "isSafe", "(I)Z"⟩ prog_2_method_5_code 2 (some .boolean) : Cond) ∈ gT := List.mem_filter.mpr ⟨List.mem_of_getElem? (i := 335) (by decide +kernel), (by decide +kernel)⟩
theorem we335 {c1 : Cond} : (.code ⟨"RollingBalls$Ball", "isSafe", "(I)Z"⟩ prog_2_method_5_code 2 (some .boolean) : Cond) ∈ c1 :: gT := List.mem_cons_of_mem _ wd335
theorem wd336 : (.methodLink "RollingBalls$Plan" 61 ⟨"RollingBalls$Plan", "listChoices", "()V"⟩ : Cond) ∈ gT := List.mem_filter.mpr ⟨List.mem_of_getElem? (i := 336) (by decide +kernel), (by decide +kernel)⟩
theorem we336 {c1 : Cond} : (.methodLink "RollingBalls$Plan" 61 ⟨"RollingBalls$Plan", "listChoices", "()V"⟩ : Cond) ∈ c1 :: gT := List.mem_cons_of_mem _ wd336
theorem wd338 : (.instanceMethod ⟨"RollingBalls$Plan", "listChoices", "()V"⟩ : Cond) ∈ gT := List.mem_filter.mpr ⟨List.mem_of_getElem? (i := 338) (by decide +kernel), (by decide +kernel)⟩
theorem we338 {c1 : Cond} : (.instanceMethod ⟨"RollingBalls$Plan", "listChoices", "()V"⟩ : Cond) ∈ c1 :: gT := List.mem_cons_of_mem _ wd338
theorem wd339 : (.code ⟨"RollingBalls$Plan", "listChoices", "()V"⟩ prog_5_method_9_code 5 none : Cond) ∈ gT := List.mem_filter.mpr ⟨List.mem_of_getElem? (i := 339) (by decide +kernel), (by decide +kernel)⟩
theorem we339 {c1 : Cond} : (.code ⟨"RollingBalls$Plan", "listChoices", "()V"⟩ prog_5_method_9_code 5 none : Cond) ∈ c1 :: gT := List.mem_cons_of_mem _ wd339
theorem wd340 : (.fieldLink "RollingBalls$Plan" 99 "RollingBalls$Plan" "SETS_WITH" "[I" : Cond) ∈ gT := List.mem_filter.mpr ⟨List.mem_of_getElem? (i := 340) (by decide +kernel), (by decide +kernel)⟩
theorem we340 {c1 : Cond} : (.fieldLink "RollingBalls$Plan" 99 "RollingBalls$Plan" "SETS_WITH" "[I" : Cond) ∈ c1 :: gT := List.mem_cons_of_mem _ wd340
theorem wd342 : (.methodLink "RollingBalls$Plan" 102 ⟨"RollingBalls$House", "tipWith", "(II)I"⟩ : Cond) ∈ gT := List.mem_filter.mpr ⟨List.mem_of_getElem? (i := 342) (by decide +kernel), (by decide +kernel)⟩
theorem we342 {c1 : Cond} : (.methodLink "RollingBalls$Plan" 102 ⟨"RollingBalls$House", "tipWith", "(II)I"⟩ : Cond) ∈ c1 :: gT := List.mem_cons_of_mem _ wd342
theorem wd343 : (.instanceMethod ⟨"RollingBalls$House", "tipWith", "(II)I"⟩ : Cond) ∈ gT := List.mem_filter.mpr ⟨List.mem_of_getElem? (i := 343) (by decide +kernel), (by decide +kernel)⟩
theorem we343 {c1 : Cond} : (.instanceMethod ⟨"RollingBalls$House", "tipWith", "(II)I"⟩ : Cond) ∈ c1 :: gT := List.mem_cons_of_mem _ wd343
theorem wd344 : (.selects "RollingBalls$House" ⟨"RollingBalls$House", "tipWith", "(II)I"⟩ ⟨"RollingBalls$House", "tipWith", "(II)I"⟩ : Cond) ∈ gT := List.mem_filter.mpr ⟨List.mem_of_getElem? (i := 344) (by decide +kernel), (by decide +kernel)⟩
theorem we344 {c1 : Cond} : (.selects "RollingBalls$House" ⟨"RollingBalls$House", "tipWith", "(II)I"⟩ ⟨"RollingBalls$House", "tipWith", "(II)I"⟩ : Cond) ∈ c1 :: gT := List.mem_cons_of_mem _ wd344
theorem wd345 : (.code ⟨"RollingBalls$House", "tipWith", "(II)I"⟩ prog_3_method_2_code 3 (some .int) : Cond) ∈ gT := List.mem_filter.mpr ⟨List.mem_of_getElem? (i := 345) (by decide +kernel), (by decide +kernel)⟩
theorem we345 {c1 : Cond} : (.code ⟨"RollingBalls$House", "tipWith", "(II)I"⟩ prog_3_method_2_code 3 (some .int) : Cond) ∈ c1 :: gT := List.mem_cons_of_mem _ wd345
theorem wd346 : (.constant "RollingBalls$House" 40 1048576 : Cond) ∈ gT := List.mem_filter.mpr ⟨List.mem_of_getElem? (i := 346) (by decide +kernel), (by decide +kernel)⟩
theorem we346 {c1 : Cond} : (.constant "RollingBalls$House" 40 1048576 : Cond) ∈ c1 :: gT := List.mem_cons_of_mem _ wd346
theorem wd347 : (.methodLink "RollingBalls$Plan" 105 ⟨"RollingBalls$Plan", "addChoice", "(III)V"⟩ : Cond) ∈ gT := List.mem_filter.mpr ⟨List.mem_of_getElem? (i := 347) (by decide +kernel), (by decide +kernel)⟩
theorem we347 {c1 : Cond} : (.methodLink "RollingBalls$Plan" 105 ⟨"RollingBalls$Plan", "addChoice", "(III)V"⟩ : Cond) ∈ c1 :: gT := List.mem_cons_of_mem _ wd347
theorem wd349 : (.instanceMethod ⟨"RollingBalls$Plan", "addChoice", "(III)V"⟩ : Cond) ∈ gT := List.mem_filter.mpr ⟨List.mem_of_getElem? (i := 349) (by decide +kernel), (by decide +kernel)⟩
theorem we349 {c1 : Cond} : (.instanceMethod ⟨"RollingBalls$Plan", "addChoice", "(III)V"⟩ : Cond) ∈ c1 :: gT := List.mem_cons_of_mem _ wd349
theorem wd350 : (.code ⟨"RollingBalls$Plan", "addChoice", "(III)V"⟩ prog_5_method_10_code 4 none : Cond) ∈ gT := List.mem_filter.mpr ⟨List.mem_of_getElem? (i := 350) (by decide +kernel), (by decide +kernel)⟩
theorem we350 {c1 : Cond} : (.code ⟨"RollingBalls$Plan", "addChoice", "(III)V"⟩ prog_5_method_10_code 4 none : Cond) ∈ c1 :: gT := List.mem_cons_of_mem _ wd350
theorem wd351 : (.methodLink "RollingBalls$Plan" 96 ⟨"RollingBalls$Plan", "countCandidates", "(II)I"⟩ : Cond) ∈ gT := List.mem_filter.mpr ⟨List.mem_of_getElem? (i := 351) (by decide +kernel), (by decide +kernel)⟩
theorem we351 {c1 : Cond} : (.methodLink "RollingBalls$Plan" 96 ⟨"RollingBalls$Plan", "countCandidates", "(II)I"⟩ : Cond) ∈ c1 :: gT := List.mem_cons_of_mem _ wd351
theorem wd353 : (.instanceMethod ⟨"RollingBalls$Plan", "countCandidates", "(II)I"⟩ : Cond) ∈ gT := List.mem_filter.mpr ⟨List.mem_of_getElem? (i := 353) (by decide +kernel), (by decide +kernel)⟩
theorem we353 {c1 : Cond} : (.instanceMethod ⟨"RollingBalls$Plan", "countCandidates", "(II)I"⟩ : Cond) ∈ c1 :: gT := List.mem_cons_of_mem _ wd353
theorem wd354 : (.code ⟨"RollingBalls$Plan", "countCandidates", "(II)I"⟩ prog_5_method_8_code 5 (some .int) : Cond) ∈ gT := List.mem_filter.mpr ⟨List.mem_of_getElem? (i := 354) (by decide +kernel), (by decide +kernel)⟩
theorem we354 {c1 : Cond} : (.code ⟨"RollingBalls$Plan", "countCandidates", "(II)I"⟩ prog_5_method_8_code 5 (some .int) : Cond) ∈ c1 :: gT := List.mem_cons_of_mem _ wd354
theorem wd355 : (.methodLink "RollingBalls$Plan" 64 ⟨"RollingBalls$Plan", "findLowTips", "()V"⟩ : Cond) ∈ gT := List.mem_filter.mpr ⟨List.mem_of_getElem? (i := 355) (by decide +kernel), (by decide +kernel)⟩
theorem we355 {c1 : Cond} : (.methodLink "RollingBalls$Plan" 64 ⟨"RollingBalls$Plan", "findLowTips", "()V"⟩ : Cond) ∈ c1 :: gT := List.mem_cons_of_mem _ wd355
theorem wd357 : (.instanceMethod ⟨"RollingBalls$Plan", "findLowTips", "()V"⟩ : Cond) ∈ gT := List.mem_filter.mpr ⟨List.mem_of_getElem? (i := 357) (by decide +kernel), (by decide +kernel)⟩
theorem we357 {c1 : Cond} : (.instanceMethod ⟨"RollingBalls$Plan", "findLowTips", "()V"⟩ : Cond) ∈ c1 :: gT := List.mem_cons_of_mem _ wd357
theorem wd358 : (.code ⟨"RollingBalls$Plan", "findLowTips", "()V"⟩ prog_5_method_11_code 2 none : Cond) ∈ gT := List.mem_filter.mpr ⟨List.mem_of_getElem? (i := 358) (by decide +kernel), (by decide +kernel)⟩
theorem we358 {c1 : Cond} : (.code ⟨"RollingBalls$Plan", "findLowTips", "()V"⟩ prog_5_method_11_code 2 none : Cond) ∈ c1 :: gT := List.mem_cons_of_mem _ wd358
theorem wd359 : (.methodLink "RollingBalls$Plan" 109 ⟨"java/lang/System", "arraycopy", "(Ljava/lang/Object;ILjava/lang/Object;II)V"⟩ : Cond) ∈ gT := List.mem_filter.mpr ⟨List.mem_of_getElem? (i := 359) (by decide +kernel), (by decide +kernel)⟩
theorem we359 {c1 : Cond} : (.methodLink "RollingBalls$Plan" 109 ⟨"java/lang/System", "arraycopy", "(Ljava/lang/Object;ILjava/lang/Object;II)V"⟩ : Cond) ∈ c1 :: gT := List.mem_cons_of_mem _ wd359
theorem wd360 : (.static ⟨"java/lang/System", "arraycopy", "(Ljava/lang/Object;ILjava/lang/Object;II)V"⟩ : Cond) ∈ gT := List.mem_filter.mpr ⟨List.mem_of_getElem? (i := 360) (by decide +kernel), (by decide +kernel)⟩
theorem we360 {c1 : Cond} : (.static ⟨"java/lang/System", "arraycopy", "(Ljava/lang/Object;ILjava/lang/Object;II)V"⟩ : Cond) ∈ c1 :: gT := List.mem_cons_of_mem _ wd360
theorem wd361 : (.native ⟨"java/lang/System", "arraycopy", "(Ljava/lang/Object;ILjava/lang/Object;II)V"⟩ : Cond) ∈ gT := List.mem_filter.mpr ⟨List.mem_of_getElem? (i := 361) (by decide +kernel), (by decide +kernel)⟩
theorem we361 {c1 : Cond} : (.native ⟨"java/lang/System", "arraycopy", "(Ljava/lang/Object;ILjava/lang/Object;II)V"⟩ : Cond) ∈ c1 :: gT := List.mem_cons_of_mem _ wd361
theorem wd362 : (.methodLink "RollingBalls$Plan" 115 ⟨"java/lang/Math", "min", "(II)I"⟩ : Cond) ∈ gT := List.mem_filter.mpr ⟨List.mem_of_getElem? (i := 362) (by decide +kernel), (by decide +kernel)⟩
theorem we362 {c1 : Cond} : (.methodLink "RollingBalls$Plan" 115 ⟨"java/lang/Math", "min", "(II)I"⟩ : Cond) ∈ c1 :: gT := List.mem_cons_of_mem _ wd362
theorem wd363 : (.methodLink "RollingBalls$Plan" 67 ⟨"RollingBalls$Plan", "isCandidate", "(I)Z"⟩ : Cond) ∈ gT := List.mem_filter.mpr ⟨List.mem_of_getElem? (i := 363) (by decide +kernel), (by decide +kernel)⟩
theorem we363 {c1 : Cond} : (.methodLink "RollingBalls$Plan" 67 ⟨"RollingBalls$Plan", "isCandidate", "(I)Z"⟩ : Cond) ∈ c1 :: gT := List.mem_cons_of_mem _ wd363
theorem wd365 : (.instanceMethod ⟨"RollingBalls$Plan", "isCandidate", "(I)Z"⟩ : Cond) ∈ gT := List.mem_filter.mpr ⟨List.mem_of_getElem? (i := 365) (by decide +kernel), (by decide +kernel)⟩
theorem we365 {c1 : Cond} : (.instanceMethod ⟨"RollingBalls$Plan", "isCandidate", "(I)Z"⟩ : Cond) ∈ c1 :: gT := List.mem_cons_of_mem _ wd365
theorem wd366 : (.code ⟨"RollingBalls$Plan", "isCandidate", "(I)Z"⟩ prog_5_method_7_code 2 (some .boolean) : Cond) ∈ gT := List.mem_filter.mpr ⟨List.mem_of_getElem? (i := 366) (by decide +kernel), (by decide +kernel)⟩
theorem we366 {c1 : Cond} : (.code ⟨"RollingBalls$Plan", "isCandidate", "(I)Z"⟩ prog_5_method_7_code 2 (some .boolean) : Cond) ∈ c1 :: gT := List.mem_cons_of_mem _ wd366
theorem wd367 : (.methodLink "RollingBalls$Plan" 71 ⟨"RollingBalls$Plan", "setsThatSave", "(II)I"⟩ : Cond) ∈ gT := List.mem_filter.mpr ⟨List.mem_of_getElem? (i := 367) (by decide +kernel), (by decide +kernel)⟩
theorem we367 {c1 : Cond} : (.methodLink "RollingBalls$Plan" 71 ⟨"RollingBalls$Plan", "setsThatSave", "(II)I"⟩ : Cond) ∈ c1 :: gT := List.mem_cons_of_mem _ wd367
theorem wd369 : (.instanceMethod ⟨"RollingBalls$Plan", "setsThatSave", "(II)I"⟩ : Cond) ∈ gT := List.mem_filter.mpr ⟨List.mem_of_getElem? (i := 369) (by decide +kernel), (by decide +kernel)⟩
theorem we369 {c1 : Cond} : (.instanceMethod ⟨"RollingBalls$Plan", "setsThatSave", "(II)I"⟩ : Cond) ∈ c1 :: gT := List.mem_cons_of_mem _ wd369
theorem wd370 : (.code ⟨"RollingBalls$Plan", "setsThatSave", "(II)I"⟩ prog_5_method_13_code 5 (some .int) : Cond) ∈ gT := List.mem_filter.mpr ⟨List.mem_of_getElem? (i := 370) (by decide +kernel), (by decide +kernel)⟩
theorem we370 {c1 : Cond} : (.code ⟨"RollingBalls$Plan", "setsThatSave", "(II)I"⟩ prog_5_method_13_code 5 (some .int) : Cond) ∈ c1 :: gT := List.mem_cons_of_mem _ wd370
theorem wd371 : (.methodLink "RollingBalls$Plan" 160 ⟨"RollingBalls$Plan", "setsThatCover", "(III)I"⟩ : Cond) ∈ gT := List.mem_filter.mpr ⟨List.mem_of_getElem? (i := 371) (by decide +kernel), (by decide +kernel)⟩
theorem we371 {c1 : Cond} : (.methodLink "RollingBalls$Plan" 160 ⟨"RollingBalls$Plan", "setsThatCover", "(III)I"⟩ : Cond) ∈ c1 :: gT := List.mem_cons_of_mem _ wd371
theorem wd373 : (.instanceMethod ⟨"RollingBalls$Plan", "setsThatCover", "(III)I"⟩ : Cond) ∈ gT := List.mem_filter.mpr ⟨List.mem_of_getElem? (i := 373) (by decide +kernel), (by decide +kernel)⟩
theorem we373 {c1 : Cond} : (.instanceMethod ⟨"RollingBalls$Plan", "setsThatCover", "(III)I"⟩ : Cond) ∈ c1 :: gT := List.mem_cons_of_mem _ wd373
theorem wd374 : (.code ⟨"RollingBalls$Plan", "setsThatCover", "(III)I"⟩ prog_5_method_14_code 12 (some .int) : Cond) ∈ gT := List.mem_filter.mpr ⟨List.mem_of_getElem? (i := 374) (by decide +kernel), (by decide +kernel)⟩
theorem we374 {c1 : Cond} : (.code ⟨"RollingBalls$Plan", "setsThatCover", "(III)I"⟩ prog_5_method_14_code 12 (some .int) : Cond) ∈ c1 :: gT := List.mem_cons_of_mem _ wd374
theorem wd375 : (.methodLink "RollingBalls$Plan" 166 ⟨"RollingBalls$Plan", "maySink", "(I)Z"⟩ : Cond) ∈ gT := List.mem_filter.mpr ⟨List.mem_of_getElem? (i := 375) (by decide +kernel), (by decide +kernel)⟩
theorem we375 {c1 : Cond} : (.methodLink "RollingBalls$Plan" 166 ⟨"RollingBalls$Plan", "maySink", "(I)Z"⟩ : Cond) ∈ c1 :: gT := List.mem_cons_of_mem _ wd375
theorem wd377 : (.instanceMethod ⟨"RollingBalls$Plan", "maySink", "(I)Z"⟩ : Cond) ∈ gT := List.mem_filter.mpr ⟨List.mem_of_getElem? (i := 377) (by decide +kernel), (by decide +kernel)⟩
theorem we377 {c1 : Cond} : (.instanceMethod ⟨"RollingBalls$Plan", "maySink", "(I)Z"⟩ : Cond) ∈ c1 :: gT := List.mem_cons_of_mem _ wd377
theorem wd378 : (.code ⟨"RollingBalls$Plan", "maySink", "(I)Z"⟩ prog_5_method_15_code 3 (some .boolean) : Cond) ∈ gT := List.mem_filter.mpr ⟨List.mem_of_getElem? (i := 378) (by decide +kernel), (by decide +kernel)⟩
theorem we378 {c1 : Cond} : (.code ⟨"RollingBalls$Plan", "maySink", "(I)Z"⟩ prog_5_method_15_code 3 (some .boolean) : Cond) ∈ c1 :: gT := List.mem_cons_of_mem _ wd378
theorem wd379 : (.methodLink "RollingBalls$Plan" 169 ⟨"RollingBalls$Plan", "lowRest", "(II)I"⟩ : Cond) ∈ gT := List.mem_filter.mpr ⟨List.mem_of_getElem? (i := 379) (by decide +kernel), (by decide +kernel)⟩
theorem we379 {c1 : Cond} : (.methodLink "RollingBalls$Plan" 169 ⟨"RollingBalls$Plan", "lowRest", "(II)I"⟩ : Cond) ∈ c1 :: gT := List.mem_cons_of_mem _ wd379
theorem wd381 : (.instanceMethod ⟨"RollingBalls$Plan", "lowRest", "(II)I"⟩ : Cond) ∈ gT := List.mem_filter.mpr ⟨List.mem_of_getElem? (i := 381) (by decide +kernel), (by decide +kernel)⟩
theorem we381 {c1 : Cond} : (.instanceMethod ⟨"RollingBalls$Plan", "lowRest", "(II)I"⟩ : Cond) ∈ c1 :: gT := List.mem_cons_of_mem _ wd381
theorem wd382 : (.code ⟨"RollingBalls$Plan", "lowRest", "(II)I"⟩ prog_5_method_16_code 3 (some .int) : Cond) ∈ gT := List.mem_filter.mpr ⟨List.mem_of_getElem? (i := 382) (by decide +kernel), (by decide +kernel)⟩
theorem we382 {c1 : Cond} : (.code ⟨"RollingBalls$Plan", "lowRest", "(II)I"⟩ prog_5_method_16_code 3 (some .int) : Cond) ∈ c1 :: gT := List.mem_cons_of_mem _ wd382
theorem wd383 : (.methodLink "RollingBalls$Plan" 175 ⟨"RollingBalls$Ball", "climb", "([IIII)I"⟩ : Cond) ∈ gT := List.mem_filter.mpr ⟨List.mem_of_getElem? (i := 383) (by decide +kernel), (by decide +kernel)⟩
theorem we383 {c1 : Cond} : (.methodLink "RollingBalls$Plan" 175 ⟨"RollingBalls$Ball", "climb", "([IIII)I"⟩ : Cond) ∈ c1 :: gT := List.mem_cons_of_mem _ wd383
theorem wd384 : (.instanceMethod ⟨"RollingBalls$Ball", "climb", "([IIII)I"⟩ : Cond) ∈ gT := List.mem_filter.mpr ⟨List.mem_of_getElem? (i := 384) (by decide +kernel), (by decide +kernel)⟩
theorem we384 {c1 : Cond} : (.instanceMethod ⟨"RollingBalls$Ball", "climb", "([IIII)I"⟩ : Cond) ∈ c1 :: gT := List.mem_cons_of_mem _ wd384
theorem wd385 : (.selects "RollingBalls$Ball" ⟨"RollingBalls$Ball", "climb", "([IIII)I"⟩ ⟨"RollingBalls$Ball", "climb", "([IIII)I"⟩ : Cond) ∈ gT := List.mem_filter.mpr ⟨List.mem_of_getElem? (i := 385) (by decide +kernel), (by decide +kernel)⟩
theorem we385 {c1 : Cond} : (.selects "RollingBalls$Ball" ⟨"RollingBalls$Ball", "climb", "([IIII)I"⟩ ⟨"RollingBalls$Ball", "climb", "([IIII)I"⟩ : Cond) ∈ c1 :: gT := List.mem_cons_of_mem _ wd385
theorem wd386 : (.code ⟨"RollingBalls$Ball", "climb", "([IIII)I"⟩ prog_2_method_15_code 22 (some .int) : Cond) ∈ gT := List.mem_filter.mpr ⟨List.mem_of_getElem? (i := 386) (by decide +kernel), (by decide +kernel)⟩
theorem we386 {c1 : Cond} : (.code ⟨"RollingBalls$Ball", "climb", "([IIII)I"⟩ prog_2_method_15_code 22 (some .int) : Cond) ∈ c1 :: gT := List.mem_cons_of_mem _ wd386
theorem wd387 : (.methodLink "RollingBalls$Plan" 156 ⟨"RollingBalls$Plan", "setsAbove", "(III)I"⟩ : Cond) ∈ gT := List.mem_filter.mpr ⟨List.mem_of_getElem? (i := 387) (by decide +kernel), (by decide +kernel)⟩
theorem we387 {c1 : Cond} : (.methodLink "RollingBalls$Plan" 156 ⟨"RollingBalls$Plan", "setsAbove", "(III)I"⟩ : Cond) ∈ c1 :: gT := List.mem_cons_of_mem _ wd387
theorem wd389 : (.instanceMethod ⟨"RollingBalls$Plan", "setsAbove", "(III)I"⟩ : Cond) ∈ gT := List.mem_filter.mpr ⟨List.mem_of_getElem? (i := 389) (by decide +kernel), (by decide +kernel)⟩
theorem we389 {c1 : Cond} : (.instanceMethod ⟨"RollingBalls$Plan", "setsAbove", "(III)I"⟩ : Cond) ∈ c1 :: gT := List.mem_cons_of_mem _ wd389
theorem wd390 : (.code ⟨"RollingBalls$Plan", "setsAbove", "(III)I"⟩ prog_5_method_19_code 6 (some .int) : Cond) ∈ gT := List.mem_filter.mpr ⟨List.mem_of_getElem? (i := 390) (by decide +kernel), (by decide +kernel)⟩
theorem we390 {c1 : Cond} : (.code ⟨"RollingBalls$Plan", "setsAbove", "(III)I"⟩ prog_5_method_19_code 6 (some .int) : Cond) ∈ c1 :: gT := List.mem_cons_of_mem _ wd390
theorem wd391 : (.methodLink "RollingBalls$Plan" 188 ⟨"RollingBalls$Ball", "liftOver", "(III)I"⟩ : Cond) ∈ gT := List.mem_filter.mpr ⟨List.mem_of_getElem? (i := 391) (by decide +kernel), (by decide +kernel)⟩
theorem we391 {c1 : Cond} : (.methodLink "RollingBalls$Plan" 188 ⟨"RollingBalls$Ball", "liftOver", "(III)I"⟩ : Cond) ∈ c1 :: gT := List.mem_cons_of_mem _ wd391
theorem wd392 : (.instanceMethod ⟨"RollingBalls$Ball", "liftOver", "(III)I"⟩ : Cond) ∈ gT := List.mem_filter.mpr ⟨List.mem_of_getElem? (i := 392) (by decide +kernel), (by decide +kernel)⟩
theorem we392 {c1 : Cond} : (.instanceMethod ⟨"RollingBalls$Ball", "liftOver", "(III)I"⟩ : Cond) ∈ c1 :: gT := List.mem_cons_of_mem _ wd392
theorem wd393 : (.selects "RollingBalls$Ball" ⟨"RollingBalls$Ball", "liftOver", "(III)I"⟩ ⟨"RollingBalls$Ball", "liftOver", "(III)I"⟩ : Cond) ∈ gT := List.mem_filter.mpr ⟨List.mem_of_getElem? (i := 393) (by decide +kernel), (by decide +kernel)⟩
theorem we393 {c1 : Cond} : (.selects "RollingBalls$Ball" ⟨"RollingBalls$Ball", "liftOver", "(III)I"⟩ ⟨"RollingBalls$Ball", "liftOver", "(III)I"⟩ : Cond) ∈ c1 :: gT := List.mem_cons_of_mem _ wd393
theorem wd394 : (.code ⟨"RollingBalls$Ball", "liftOver", "(III)I"⟩ prog_2_method_14_code 7 (some .int) : Cond) ∈ gT := List.mem_filter.mpr ⟨List.mem_of_getElem? (i := 394) (by decide +kernel), (by decide +kernel)⟩
theorem we394 {c1 : Cond} : (.code ⟨"RollingBalls$Ball", "liftOver", "(III)I"⟩ prog_2_method_14_code 7 (some .int) : Cond) ∈ c1 :: gT := List.mem_cons_of_mem _ wd394
theorem wd395 : (.constant "RollingBalls$Ball" 142 (-1073741824) : Cond) ∈ gT := List.mem_filter.mpr ⟨List.mem_of_getElem? (i := 395) (by decide +kernel), (by decide +kernel)⟩
theorem we395 {c1 : Cond} : (.constant "RollingBalls$Ball" 142 (-1073741824) : Cond) ∈ c1 :: gT := List.mem_cons_of_mem _ wd395
theorem wd396 : (.methodLink "RollingBalls$Plan" 75 ⟨"RollingBalls$Plan", "setsThatFree", "(II)I"⟩ : Cond) ∈ gT := List.mem_filter.mpr ⟨List.mem_of_getElem? (i := 396) (by decide +kernel), (by decide +kernel)⟩
theorem we396 {c1 : Cond} : (.methodLink "RollingBalls$Plan" 75 ⟨"RollingBalls$Plan", "setsThatFree", "(II)I"⟩ : Cond) ∈ c1 :: gT := List.mem_cons_of_mem _ wd396
theorem wd398 : (.instanceMethod ⟨"RollingBalls$Plan", "setsThatFree", "(II)I"⟩ : Cond) ∈ gT := List.mem_filter.mpr ⟨List.mem_of_getElem? (i := 398) (by decide +kernel), (by decide +kernel)⟩
theorem we398 {c1 : Cond} : (.instanceMethod ⟨"RollingBalls$Plan", "setsThatFree", "(II)I"⟩ : Cond) ∈ c1 :: gT := List.mem_cons_of_mem _ wd398
theorem wd399 : (.code ⟨"RollingBalls$Plan", "setsThatFree", "(II)I"⟩ prog_5_method_12_code 10 (some .int) : Cond) ∈ gT := List.mem_filter.mpr ⟨List.mem_of_getElem? (i := 399) (by decide +kernel), (by decide +kernel)⟩
theorem we399 {c1 : Cond} : (.code ⟨"RollingBalls$Plan", "setsThatFree", "(II)I"⟩ prog_5_method_12_code 10 (some .int) : Cond) ∈ c1 :: gT := List.mem_cons_of_mem _ wd399
theorem wd400 : (.methodLink "RollingBalls$Plan" 78 ⟨"RollingBalls$Plan", "bestOf", "(I)I"⟩ : Cond) ∈ gT := List.mem_filter.mpr ⟨List.mem_of_getElem? (i := 400) (by decide +kernel), (by decide +kernel)⟩
theorem we400 {c1 : Cond} : (.methodLink "RollingBalls$Plan" 78 ⟨"RollingBalls$Plan", "bestOf", "(I)I"⟩ : Cond) ∈ c1 :: gT := List.mem_cons_of_mem _ wd400
theorem wd402 : (.instanceMethod ⟨"RollingBalls$Plan", "bestOf", "(I)I"⟩ : Cond) ∈ gT := List.mem_filter.mpr ⟨List.mem_of_getElem? (i := 402) (by decide +kernel), (by decide +kernel)⟩
theorem we402 {c1 : Cond} : (.instanceMethod ⟨"RollingBalls$Plan", "bestOf", "(I)I"⟩ : Cond) ∈ c1 :: gT := List.mem_cons_of_mem _ wd402
theorem wd403 : (.code ⟨"RollingBalls$Plan", "bestOf", "(I)I"⟩ prog_5_method_20_code 4 (some .int) : Cond) ∈ gT := List.mem_filter.mpr ⟨List.mem_of_getElem? (i := 403) (by decide +kernel), (by decide +kernel)⟩
theorem we403 {c1 : Cond} : (.code ⟨"RollingBalls$Plan", "bestOf", "(I)I"⟩ prog_5_method_20_code 4 (some .int) : Cond) ∈ c1 :: gT := List.mem_cons_of_mem _ wd403
theorem wd404 : (.methodLink "RollingBalls$Plan" 191 ⟨"RollingBalls$Plan", "holds", "(II)Z"⟩ : Cond) ∈ gT := List.mem_filter.mpr ⟨List.mem_of_getElem? (i := 404) (by decide +kernel), (by decide +kernel)⟩
theorem we404 {c1 : Cond} : (.methodLink "RollingBalls$Plan" 191 ⟨"RollingBalls$Plan", "holds", "(II)Z"⟩ : Cond) ∈ c1 :: gT := List.mem_cons_of_mem _ wd404
theorem wd405 : (.static ⟨"RollingBalls$Plan", "holds", "(II)Z"⟩ : Cond) ∈ gT := List.mem_filter.mpr ⟨List.mem_of_getElem? (i := 405) (by decide +kernel), (by decide +kernel)⟩
theorem we405 {c1 : Cond} : (.static ⟨"RollingBalls$Plan", "holds", "(II)Z"⟩ : Cond) ∈ c1 :: gT := List.mem_cons_of_mem _ wd405
theorem wd406 : (.code ⟨"RollingBalls$Plan", "holds", "(II)Z"⟩ prog_5_method_2_code 2 (some .boolean) : Cond) ∈ gT := List.mem_filter.mpr ⟨List.mem_of_getElem? (i := 406) (by decide +kernel), (by decide +kernel)⟩
theorem we406 {c1 : Cond} : (.code ⟨"RollingBalls$Plan", "holds", "(II)Z"⟩ prog_5_method_2_code 2 (some .boolean) : Cond) ∈ c1 :: gT := List.mem_cons_of_mem _ wd406
theorem wd407 : (.methodLink "RollingBalls$Plan" 195 ⟨"RollingBalls$Plan", "isBetter", "(II)Z"⟩ : Cond) ∈ gT := List.mem_filter.mpr ⟨List.mem_of_getElem? (i := 407) (by decide +kernel), (by decide +kernel)⟩
theorem we407 {c1 : Cond} : (.methodLink "RollingBalls$Plan" 195 ⟨"RollingBalls$Plan", "isBetter", "(II)Z"⟩ : Cond) ∈ c1 :: gT := List.mem_cons_of_mem _ wd407
theorem wd409 : (.instanceMethod ⟨"RollingBalls$Plan", "isBetter", "(II)Z"⟩ : Cond) ∈ gT := List.mem_filter.mpr ⟨List.mem_of_getElem? (i := 409) (by decide +kernel), (by decide +kernel)⟩
theorem we409 {c1 : Cond} : (.instanceMethod ⟨"RollingBalls$Plan", "isBetter", "(II)Z"⟩ : Cond) ∈ c1 :: gT := List.mem_cons_of_mem _ wd409
theorem wd410 : (.code ⟨"RollingBalls$Plan", "isBetter", "(II)Z"⟩ prog_5_method_22_code 5 (some .boolean) : Cond) ∈ gT := List.mem_filter.mpr ⟨List.mem_of_getElem? (i := 410) (by decide +kernel), (by decide +kernel)⟩
theorem we410 {c1 : Cond} : (.code ⟨"RollingBalls$Plan", "isBetter", "(II)Z"⟩ prog_5_method_22_code 5 (some .boolean) : Cond) ∈ c1 :: gT := List.mem_cons_of_mem _ wd410
theorem wd411 : (.methodLink "RollingBalls$Plan" 198 ⟨"java/lang/Integer", "bitCount", "(I)I"⟩ : Cond) ∈ gT := List.mem_filter.mpr ⟨List.mem_of_getElem? (i := 411) (by decide +kernel), (by decide +kernel)⟩
theorem we411 {c1 : Cond} : (.methodLink "RollingBalls$Plan" 198 ⟨"java/lang/Integer", "bitCount", "(I)I"⟩ : Cond) ∈ c1 :: gT := List.mem_cons_of_mem _ wd411
theorem wd412 : (.static ⟨"java/lang/Integer", "bitCount", "(I)I"⟩ : Cond) ∈ gT := List.mem_filter.mpr ⟨List.mem_of_getElem? (i := 412) (by decide +kernel), (by decide +kernel)⟩
theorem we412 {c1 : Cond} : (.static ⟨"java/lang/Integer", "bitCount", "(I)I"⟩ : Cond) ∈ c1 :: gT := List.mem_cons_of_mem _ wd412
theorem wd413 : (.code ⟨"java/lang/Integer", "bitCount", "(I)I"⟩ prog_12_method_49_code 1 (some .int) : Cond) ∈ gT := List.mem_filter.mpr ⟨List.mem_of_getElem? (i := 413) (by decide +kernel), (by decide +kernel)⟩
theorem we413 {c1 : Cond} : (.code ⟨"java/lang/Integer", "bitCount", "(I)I"⟩ prog_12_method_49_code 1 (some .int) : Cond) ∈ c1 :: gT := List.mem_cons_of_mem _ wd413
theorem wd414 : (.constant "java/lang/Integer" 265 1431655765 : Cond) ∈ gT := List.mem_filter.mpr ⟨List.mem_of_getElem? (i := 414) (by decide +kernel), (by decide +kernel)⟩
theorem we414 {c1 : Cond} : (.constant "java/lang/Integer" 265 1431655765 : Cond) ∈ c1 :: gT := List.mem_cons_of_mem _ wd414
theorem wd415 : (.constant "java/lang/Integer" 266 858993459 : Cond) ∈ gT := List.mem_filter.mpr ⟨List.mem_of_getElem? (i := 415) (by decide +kernel), (by decide +kernel)⟩
theorem we415 {c1 : Cond} : (.constant "java/lang/Integer" 266 858993459 : Cond) ∈ c1 :: gT := List.mem_cons_of_mem _ wd415
theorem wd416 : (.constant "java/lang/Integer" 267 252645135 : Cond) ∈ gT := List.mem_filter.mpr ⟨List.mem_of_getElem? (i := 416) (by decide +kernel), (by decide +kernel)⟩
theorem we416 {c1 : Cond} : (.constant "java/lang/Integer" 267 252645135 : Cond) ∈ c1 :: gT := List.mem_cons_of_mem _ wd416
theorem wd417 : (.methodLink "RollingBalls$Plan" 203 ⟨"RollingBalls$Plan", "lengthOf", "(I)I"⟩ : Cond) ∈ gT := List.mem_filter.mpr ⟨List.mem_of_getElem? (i := 417) (by decide +kernel), (by decide +kernel)⟩
theorem we417 {c1 : Cond} : (.methodLink "RollingBalls$Plan" 203 ⟨"RollingBalls$Plan", "lengthOf", "(I)I"⟩ : Cond) ∈ c1 :: gT := List.mem_cons_of_mem _ wd417
theorem wd419 : (.instanceMethod ⟨"RollingBalls$Plan", "lengthOf", "(I)I"⟩ : Cond) ∈ gT := List.mem_filter.mpr ⟨List.mem_of_getElem? (i := 419) (by decide +kernel), (by decide +kernel)⟩
theorem we419 {c1 : Cond} : (.instanceMethod ⟨"RollingBalls$Plan", "lengthOf", "(I)I"⟩ : Cond) ∈ c1 :: gT := List.mem_cons_of_mem _ wd419
theorem wd420 : (.code ⟨"RollingBalls$Plan", "lengthOf", "(I)I"⟩ prog_5_method_23_code 4 (some .int) : Cond) ∈ gT := List.mem_filter.mpr ⟨List.mem_of_getElem? (i := 420) (by decide +kernel), (by decide +kernel)⟩
theorem we420 {c1 : Cond} : (.code ⟨"RollingBalls$Plan", "lengthOf", "(I)I"⟩ prog_5_method_23_code 4 (some .int) : Cond) ∈ c1 :: gT := List.mem_cons_of_mem _ wd420
theorem wd421 : (.methodLink "RollingBalls$Plan" 82 ⟨"RollingBalls$Plan", "setsBetterThan", "(II)I"⟩ : Cond) ∈ gT := List.mem_filter.mpr ⟨List.mem_of_getElem? (i := 421) (by decide +kernel), (by decide +kernel)⟩
theorem we421 {c1 : Cond} : (.methodLink "RollingBalls$Plan" 82 ⟨"RollingBalls$Plan", "setsBetterThan", "(II)I"⟩ : Cond) ∈ c1 :: gT := List.mem_cons_of_mem _ wd421
theorem wd423 : (.instanceMethod ⟨"RollingBalls$Plan", "setsBetterThan", "(II)I"⟩ : Cond) ∈ gT := List.mem_filter.mpr ⟨List.mem_of_getElem? (i := 423) (by decide +kernel), (by decide +kernel)⟩
theorem we423 {c1 : Cond} : (.instanceMethod ⟨"RollingBalls$Plan", "setsBetterThan", "(II)I"⟩ : Cond) ∈ c1 :: gT := List.mem_cons_of_mem _ wd423
theorem wd424 : (.code ⟨"RollingBalls$Plan", "setsBetterThan", "(II)I"⟩ prog_5_method_21_code 5 (some .int) : Cond) ∈ gT := List.mem_filter.mpr ⟨List.mem_of_getElem? (i := 424) (by decide +kernel), (by decide +kernel)⟩
theorem we424 {c1 : Cond} : (.code ⟨"RollingBalls$Plan", "setsBetterThan", "(II)I"⟩ prog_5_method_21_code 5 (some .int) : Cond) ∈ c1 :: gT := List.mem_cons_of_mem _ wd424
theorem wd425 : (.methodLink "RollingBalls$Plan" 88 ⟨"RollingBalls$Plan", "setsThatMayLower", "(II)I"⟩ : Cond) ∈ gT := List.mem_filter.mpr ⟨List.mem_of_getElem? (i := 425) (by decide +kernel), (by decide +kernel)⟩
theorem we425 {c1 : Cond} : (.methodLink "RollingBalls$Plan" 88 ⟨"RollingBalls$Plan", "setsThatMayLower", "(II)I"⟩ : Cond) ∈ c1 :: gT := List.mem_cons_of_mem _ wd425
theorem wd427 : (.instanceMethod ⟨"RollingBalls$Plan", "setsThatMayLower", "(II)I"⟩ : Cond) ∈ gT := List.mem_filter.mpr ⟨List.mem_of_getElem? (i := 427) (by decide +kernel), (by decide +kernel)⟩
theorem we427 {c1 : Cond} : (.instanceMethod ⟨"RollingBalls$Plan", "setsThatMayLower", "(II)I"⟩ : Cond) ∈ c1 :: gT := List.mem_cons_of_mem _ wd427
theorem wd428 : (.code ⟨"RollingBalls$Plan", "setsThatMayLower", "(II)I"⟩ prog_5_method_17_code 10 (some .int) : Cond) ∈ gT := List.mem_filter.mpr ⟨List.mem_of_getElem? (i := 428) (by decide +kernel), (by decide +kernel)⟩
theorem we428 {c1 : Cond} : (.code ⟨"RollingBalls$Plan", "setsThatMayLower", "(II)I"⟩ prog_5_method_17_code 10 (some .int) : Cond) ∈ c1 :: gT := List.mem_cons_of_mem _ wd428
theorem wd429 : (.methodLink "RollingBalls$Plan" 179 ⟨"RollingBalls$Plan", "isWantedListed", "()Z"⟩ : Cond) ∈ gT := List.mem_filter.mpr ⟨List.mem_of_getElem? (i := 429) (by decide +kernel), (by decide +kernel)⟩
theorem we429 {c1 : Cond} : (.methodLink "RollingBalls$Plan" 179 ⟨"RollingBalls$Plan", "isWantedListed", "()Z"⟩ : Cond) ∈ c1 :: gT := List.mem_cons_of_mem _ wd429
theorem wd431 : (.instanceMethod ⟨"RollingBalls$Plan", "isWantedListed", "()Z"⟩ : Cond) ∈ gT := List.mem_filter.mpr ⟨List.mem_of_getElem? (i := 431) (by decide +kernel), (by decide +kernel)⟩
theorem we431 {c1 : Cond} : (.instanceMethod ⟨"RollingBalls$Plan", "isWantedListed", "()Z"⟩ : Cond) ∈ c1 :: gT := List.mem_cons_of_mem _ wd431
theorem wd432 : (.code ⟨"RollingBalls$Plan", "isWantedListed", "()Z"⟩ prog_5_method_18_code 2 (some .boolean) : Cond) ∈ gT := List.mem_filter.mpr ⟨List.mem_of_getElem? (i := 432) (by decide +kernel), (by decide +kernel)⟩
theorem we432 {c1 : Cond} : (.code ⟨"RollingBalls$Plan", "isWantedListed", "()Z"⟩ prog_5_method_18_code 2 (some .boolean) : Cond) ∈ c1 :: gT := List.mem_cons_of_mem _ wd432
theorem wd433 : (.methodLink "RollingBallsLaw" 111 ⟨"RollingBalls", "put", "(I)I"⟩ : Cond) ∈ gT := List.mem_filter.mpr ⟨List.mem_of_getElem? (i := 433) (by decide +kernel), (by decide +kernel)⟩
theorem we433 {c1 : Cond} : (.methodLink "RollingBallsLaw" 111 ⟨"RollingBalls", "put", "(I)I"⟩ : Cond) ∈ c1 :: gT := List.mem_cons_of_mem _ wd433
theorem wd434 : (.instanceMethod ⟨"RollingBalls", "put", "(I)I"⟩ : Cond) ∈ gT := List.mem_filter.mpr ⟨List.mem_of_getElem? (i := 434) (by decide +kernel), (by decide +kernel)⟩
theorem we434 {c1 : Cond} : (.instanceMethod ⟨"RollingBalls", "put", "(I)I"⟩ : Cond) ∈ c1 :: gT := List.mem_cons_of_mem _ wd434
theorem wd435 : (.selects "RollingBalls" ⟨"RollingBalls", "put", "(I)I"⟩ ⟨"RollingBalls", "put", "(I)I"⟩ : Cond) ∈ gT := List.mem_filter.mpr ⟨List.mem_of_getElem? (i := 435) (by decide +kernel), (by decide +kernel)⟩
theorem we435 {c1 : Cond} : (.selects "RollingBalls" ⟨"RollingBalls", "put", "(I)I"⟩ ⟨"RollingBalls", "put", "(I)I"⟩ : Cond) ∈ c1 :: gT := List.mem_cons_of_mem _ wd435
theorem wd436 : (.code ⟨"RollingBalls", "put", "(I)I"⟩ prog_1_method_15_code 4 (some .int) : Cond) ∈ gT := List.mem_filter.mpr ⟨List.mem_of_getElem? (i := 436) (by decide +kernel), (by decide +kernel)⟩
theorem we436 {c1 : Cond} : (.code ⟨"RollingBalls", "put", "(I)I"⟩ prog_1_method_15_code 4 (some .int) : Cond) ∈ c1 :: gT := List.mem_cons_of_mem _ wd436
theorem wd437 : (.methodLink "RollingBalls" 138 ⟨"RollingBalls$Ball", "isSafe", "(I)Z"⟩ : Cond) ∈ gT := List.mem_filter.mpr ⟨List.mem_of_getElem? (i := 437) (by decide +kernel), (by decide +kernel)⟩
theorem we437 {c1 : Cond} : (.methodLink "RollingBalls" 138 ⟨"RollingBalls$Ball", "isSafe", "(I)Z"⟩ : Cond) ∈ c1 :: gT := List.mem_cons_of_mem _ wd437
theorem wd438 : (.methodLink "RollingBalls" 165 ⟨"RollingBalls$Plan", "holds", "(II)Z"⟩ : Cond) ∈ gT := List.mem_filter.mpr ⟨List.mem_of_getElem? (i := 438) (by decide +kernel), (by decide +kernel)⟩
theorem we438 {c1 : Cond} : (.methodLink "RollingBalls" 165 ⟨"RollingBalls$Plan", "holds", "(II)Z"⟩ : Cond) ∈ c1 :: gT := List.mem_cons_of_mem _ wd438
theorem wd439 : (.methodLink "RollingBalls" 78 ⟨"RollingBalls", "putRod", "(II)V"⟩ : Cond) ∈ gT := List.mem_filter.mpr ⟨List.mem_of_getElem? (i := 439) (by decide +kernel), (by decide +kernel)⟩
theorem we439 {c1 : Cond} : (.methodLink "RollingBalls" 78 ⟨"RollingBalls", "putRod", "(II)V"⟩ : Cond) ∈ c1 :: gT := List.mem_cons_of_mem _ wd439
theorem wd441 : (.instanceMethod ⟨"RollingBalls", "putRod", "(II)V"⟩ : Cond) ∈ gT := List.mem_filter.mpr ⟨List.mem_of_getElem? (i := 441) (by decide +kernel), (by decide +kernel)⟩
theorem we441 {c1 : Cond} : (.instanceMethod ⟨"RollingBalls", "putRod", "(II)V"⟩ : Cond) ∈ c1 :: gT := List.mem_cons_of_mem _ wd441
theorem wd442 : (.code ⟨"RollingBalls", "putRod", "(II)V"⟩ prog_1_method_16_code 3 none : Cond) ∈ gT := List.mem_filter.mpr ⟨List.mem_of_getElem? (i := 442) (by decide +kernel), (by decide +kernel)⟩
theorem we442 {c1 : Cond} : (.code ⟨"RollingBalls", "putRod", "(II)V"⟩ prog_1_method_16_code 3 none : Cond) ∈ c1 :: gT := List.mem_cons_of_mem _ wd442
theorem wd443 : (.methodLink "RollingBalls" 72 ⟨"RollingBalls$House", "tipWith", "(II)I"⟩ : Cond) ∈ gT := List.mem_filter.mpr ⟨List.mem_of_getElem? (i := 443) (by decide +kernel), (by decide +kernel)⟩
theorem we443 {c1 : Cond} : (.methodLink "RollingBalls" 72 ⟨"RollingBalls$House", "tipWith", "(II)I"⟩ : Cond) ∈ c1 :: gT := List.mem_cons_of_mem _ wd443
theorem wd444 : (.methodLink "RollingBalls" 75 ⟨"RollingBalls$Ball", "moveTip", "(II)V"⟩ : Cond) ∈ gT := List.mem_filter.mpr ⟨List.mem_of_getElem? (i := 444) (by decide +kernel), (by decide +kernel)⟩
theorem we444 {c1 : Cond} : (.methodLink "RollingBalls" 75 ⟨"RollingBalls$Ball", "moveTip", "(II)V"⟩ : Cond) ∈ c1 :: gT := List.mem_cons_of_mem _ wd444
theorem wd445 : (.instanceMethod ⟨"RollingBalls$Ball", "moveTip", "(II)V"⟩ : Cond) ∈ gT := List.mem_filter.mpr ⟨List.mem_of_getElem? (i := 445) (by decide +kernel), (by decide +kernel)⟩
theorem we445 {c1 : Cond} : (.instanceMethod ⟨"RollingBalls$Ball", "moveTip", "(II)V"⟩ : Cond) ∈ c1 :: gT := List.mem_cons_of_mem _ wd445
theorem wd446 : (.selects "RollingBalls$Ball" ⟨"RollingBalls$Ball", "moveTip", "(II)V"⟩ ⟨"RollingBalls$Ball", "moveTip", "(II)V"⟩ : Cond) ∈ gT := List.mem_filter.mpr ⟨List.mem_of_getElem? (i := 446) (by decide +kernel), (by decide +kernel)⟩
theorem we446 {c1 : Cond} : (.selects "RollingBalls$Ball" ⟨"RollingBalls$Ball", "moveTip", "(II)V"⟩ ⟨"RollingBalls$Ball", "moveTip", "(II)V"⟩ : Cond) ∈ c1 :: gT := List.mem_cons_of_mem _ wd446
theorem wd447 : (.code ⟨"RollingBalls$Ball", "moveTip", "(II)V"⟩ prog_2_method_8_code 4 none : Cond) ∈ gT := List.mem_filter.mpr ⟨List.mem_of_getElem? (i := 447) (by decide +kernel), (by decide +kernel)⟩
theorem we447 {c1 : Cond} : (.code ⟨"RollingBalls$Ball", "moveTip", "(II)V"⟩ prog_2_method_8_code 4 none : Cond) ∈ c1 :: gT := List.mem_cons_of_mem _ wd447
theorem wd448 : (.methodLink "RollingBalls$Ball" 110 ⟨"RollingBalls$Ball", "raiseTip", "(II)V"⟩ : Cond) ∈ gT := List.mem_filter.mpr ⟨List.mem_of_getElem? (i := 448) (by decide +kernel), (by decide +kernel)⟩
theorem we448 {c1 : Cond} : (.methodLink "RollingBalls$Ball" 110 ⟨"RollingBalls$Ball", "raiseTip", "(II)V"⟩ : Cond) ∈ c1 :: gT := List.mem_cons_of_mem _ wd448
theorem wd450 : (.instanceMethod ⟨"RollingBalls$Ball", "raiseTip", "(II)V"⟩ : Cond) ∈ gT := List.mem_filter.mpr ⟨List.mem_of_getElem? (i := 450) (by decide +kernel), (by decide +kernel)⟩
theorem we450 {c1 : Cond} : (.instanceMethod ⟨"RollingBalls$Ball", "raiseTip", "(II)V"⟩ : Cond) ∈ c1 :: gT := List.mem_cons_of_mem _ wd450
theorem wd451 : (.code ⟨"RollingBalls$Ball", "raiseTip", "(II)V"⟩ prog_2_method_9_code 9 none : Cond) ∈ gT := List.mem_filter.mpr ⟨List.mem_of_getElem? (i := 451) (by decide +kernel), (by decide +kernel)⟩
theorem we451 {c1 : Cond} : (.code ⟨"RollingBalls$Ball", "raiseTip", "(II)V"⟩ prog_2_method_9_code 9 none : Cond) ∈ c1 :: gT := List.mem_cons_of_mem _ wd451
theorem wd452 : (.methodLink "RollingBalls$Ball" 122 ⟨"RollingBalls$Ball", "leave", "(III)V"⟩ : Cond) ∈ gT := List.mem_filter.mpr ⟨List.mem_of_getElem? (i := 452) (by decide +kernel), (by decide +kernel)⟩
theorem we452 {c1 : Cond} : (.methodLink "RollingBalls$Ball" 122 ⟨"RollingBalls$Ball", "leave", "(III)V"⟩ : Cond) ∈ c1 :: gT := List.mem_cons_of_mem _ wd452
theorem wd454 : (.instanceMethod ⟨"RollingBalls$Ball", "leave", "(III)V"⟩ : Cond) ∈ gT := List.mem_filter.mpr ⟨List.mem_of_getElem? (i := 454) (by decide +kernel), (by decide +kernel)⟩
theorem we454 {c1 : Cond} : (.instanceMethod ⟨"RollingBalls$Ball", "leave", "(III)V"⟩ : Cond) ∈ c1 :: gT := List.mem_cons_of_mem _ wd454
theorem wd455 : (.code ⟨"RollingBalls$Ball", "leave", "(III)V"⟩ prog_2_method_10_code 5 none : Cond) ∈ gT := List.mem_filter.mpr ⟨List.mem_of_getElem? (i := 455) (by decide +kernel), (by decide +kernel)⟩
theorem we455 {c1 : Cond} : (.code ⟨"RollingBalls$Ball", "leave", "(III)V"⟩ prog_2_method_10_code 5 none : Cond) ∈ c1 :: gT := List.mem_cons_of_mem _ wd455
theorem wd456 : (.methodLink "RollingBalls$Ball" 92 ⟨"RollingBalls$Ball", "climb", "([IIII)I"⟩ : Cond) ∈ gT := List.mem_filter.mpr ⟨List.mem_of_getElem? (i := 456) (by decide +kernel), (by decide +kernel)⟩
theorem we456 {c1 : Cond} : (.methodLink "RollingBalls$Ball" 92 ⟨"RollingBalls$Ball", "climb", "([IIII)I"⟩ : Cond) ∈ c1 :: gT := List.mem_cons_of_mem _ wd456
theorem wd457 : (.methodLink "RollingBalls$Ball" 129 ⟨"RollingBalls$Ball", "countListed", "(I)V"⟩ : Cond) ∈ gT := List.mem_filter.mpr ⟨List.mem_of_getElem? (i := 457) (by decide +kernel), (by decide +kernel)⟩
theorem we457 {c1 : Cond} : (.methodLink "RollingBalls$Ball" 129 ⟨"RollingBalls$Ball", "countListed", "(I)V"⟩ : Cond) ∈ c1 :: gT := List.mem_cons_of_mem _ wd457
theorem wd459 : (.instanceMethod ⟨"RollingBalls$Ball", "countListed", "(I)V"⟩ : Cond) ∈ gT := List.mem_filter.mpr ⟨List.mem_of_getElem? (i := 459) (by decide +kernel), (by decide +kernel)⟩
theorem we459 {c1 : Cond} : (.instanceMethod ⟨"RollingBalls$Ball", "countListed", "(I)V"⟩ : Cond) ∈ c1 :: gT := List.mem_cons_of_mem _ wd459
theorem wd460 : (.code ⟨"RollingBalls$Ball", "countListed", "(I)V"⟩ prog_2_method_13_code 3 none : Cond) ∈ gT := List.mem_filter.mpr ⟨List.mem_of_getElem? (i := 460) (by decide +kernel), (by decide +kernel)⟩
theorem we460 {c1 : Cond} : (.code ⟨"RollingBalls$Ball", "countListed", "(I)V"⟩ prog_2_method_13_code 3 none : Cond) ∈ c1 :: gT := List.mem_cons_of_mem _ wd460
theorem wd461 : (.methodLink "RollingBalls$Ball" 126 ⟨"RollingBalls$House", "setTip", "(II)V"⟩ : Cond) ∈ gT := List.mem_filter.mpr ⟨List.mem_of_getElem? (i := 461) (by decide +kernel), (by decide +kernel)⟩
theorem we461 {c1 : Cond} : (.methodLink "RollingBalls$Ball" 126 ⟨"RollingBalls$House", "setTip", "(II)V"⟩ : Cond) ∈ c1 :: gT := List.mem_cons_of_mem _ wd461
theorem wd462 : (.instanceMethod ⟨"RollingBalls$House", "setTip", "(II)V"⟩ : Cond) ∈ gT := List.mem_filter.mpr ⟨List.mem_of_getElem? (i := 462) (by decide +kernel), (by decide +kernel)⟩
theorem we462 {c1 : Cond} : (.instanceMethod ⟨"RollingBalls$House", "setTip", "(II)V"⟩ : Cond) ∈ c1 :: gT := List.mem_cons_of_mem _ wd462
theorem wd463 : (.selects "RollingBalls$House" ⟨"RollingBalls$House", "setTip", "(II)V"⟩ ⟨"RollingBalls$House", "setTip", "(II)V"⟩ : Cond) ∈ gT := List.mem_filter.mpr ⟨List.mem_of_getElem? (i := 463) (by decide +kernel), (by decide +kernel)⟩
theorem we463 {c1 : Cond} : (.selects "RollingBalls$House" ⟨"RollingBalls$House", "setTip", "(II)V"⟩ ⟨"RollingBalls$House", "setTip", "(II)V"⟩ : Cond) ∈ c1 :: gT := List.mem_cons_of_mem _ wd463
theorem wd464 : (.code ⟨"RollingBalls$House", "setTip", "(II)V"⟩ prog_3_method_3_code 6 none : Cond) ∈ gT := List.mem_filter.mpr ⟨List.mem_of_getElem? (i := 464) (by decide +kernel), (by decide +kernel)⟩
theorem we464 {c1 : Cond} : (.code ⟨"RollingBalls$House", "setTip", "(II)V"⟩ prog_3_method_3_code 6 none : Cond) ∈ c1 :: gT := List.mem_cons_of_mem _ wd464
theorem wd465 : (.methodLink "RollingBalls$House" 41 ⟨"java/lang/Math", "max", "(II)I"⟩ : Cond) ∈ gT := List.mem_filter.mpr ⟨List.mem_of_getElem? (i := 465) (by decide +kernel), (by decide +kernel)⟩
theorem we465 {c1 : Cond} : (.methodLink "RollingBalls$House" 41 ⟨"java/lang/Math", "max", "(II)I"⟩ : Cond) ∈ c1 :: gT := List.mem_cons_of_mem _ wd465
theorem wd466 : (.methodLink "RollingBalls$Ball" 113 ⟨"RollingBalls$Ball", "lowerTip", "(II)V"⟩ : Cond) ∈ gT := List.mem_filter.mpr ⟨List.mem_of_getElem? (i := 466) (by decide +kernel), (by decide +kernel)⟩
theorem we466 {c1 : Cond} : (.methodLink "RollingBalls$Ball" 113 ⟨"RollingBalls$Ball", "lowerTip", "(II)V"⟩ : Cond) ∈ c1 :: gT := List.mem_cons_of_mem _ wd466
theorem wd468 : (.instanceMethod ⟨"RollingBalls$Ball", "lowerTip", "(II)V"⟩ : Cond) ∈ gT := List.mem_filter.mpr ⟨List.mem_of_getElem? (i := 468) (by decide +kernel), (by decide +kernel)⟩
theorem we468 {c1 : Cond} : (.instanceMethod ⟨"RollingBalls$Ball", "lowerTip", "(II)V"⟩ : Cond) ∈ c1 :: gT := List.mem_cons_of_mem _ wd468
theorem wd469 : (.code ⟨"RollingBalls$Ball", "lowerTip", "(II)V"⟩ prog_2_method_11_code 10 none : Cond) ∈ gT := List.mem_filter.mpr ⟨List.mem_of_getElem? (i := 469) (by decide +kernel), (by decide +kernel)⟩
theorem we469 {c1 : Cond} : (.code ⟨"RollingBalls$Ball", "lowerTip", "(II)V"⟩ prog_2_method_11_code 10 none : Cond) ∈ c1 :: gT := List.mem_cons_of_mem _ wd469
theorem wd470 : (.methodLink "RollingBalls$Ball" 133 ⟨"RollingBalls$Ball", "settle", "(III)V"⟩ : Cond) ∈ gT := List.mem_filter.mpr ⟨List.mem_of_getElem? (i := 470) (by decide +kernel), (by decide +kernel)⟩
theorem we470 {c1 : Cond} : (.methodLink "RollingBalls$Ball" 133 ⟨"RollingBalls$Ball", "settle", "(III)V"⟩ : Cond) ∈ c1 :: gT := List.mem_cons_of_mem _ wd470
theorem wd472 : (.instanceMethod ⟨"RollingBalls$Ball", "settle", "(III)V"⟩ : Cond) ∈ gT := List.mem_filter.mpr ⟨List.mem_of_getElem? (i := 472) (by decide +kernel), (by decide +kernel)⟩
theorem we472 {c1 : Cond} : (.instanceMethod ⟨"RollingBalls$Ball", "settle", "(III)V"⟩ : Cond) ∈ c1 :: gT := List.mem_cons_of_mem _ wd472
theorem wd473 : (.code ⟨"RollingBalls$Ball", "settle", "(III)V"⟩ prog_2_method_12_code 4 none : Cond) ∈ gT := List.mem_filter.mpr ⟨List.mem_of_getElem? (i := 473) (by decide +kernel), (by decide +kernel)⟩
theorem we473 {c1 : Cond} : (.code ⟨"RollingBalls$Ball", "settle", "(III)V"⟩ prog_2_method_12_code 4 none : Cond) ∈ c1 :: gT := List.mem_cons_of_mem _ wd473
theorem wd474 : (.methodLink "RollingBallsLaw" 48 ⟨"RollingBallsLaw", "cell", "([II)I"⟩ : Cond) ∈ gT := List.mem_filter.mpr ⟨List.mem_of_getElem? (i := 474) (by decide +kernel), (by decide +kernel)⟩
theorem we474 {c1 : Cond} : (.methodLink "RollingBallsLaw" 48 ⟨"RollingBallsLaw", "cell", "([II)I"⟩ : Cond) ∈ c1 :: gT := List.mem_cons_of_mem _ wd474
theorem wd475 : (.static ⟨"RollingBallsLaw", "cell", "([II)I"⟩ : Cond) ∈ gT := List.mem_filter.mpr ⟨List.mem_of_getElem? (i := 475) (by decide +kernel), (by decide +kernel)⟩
theorem we475 {c1 : Cond} : (.static ⟨"RollingBallsLaw", "cell", "([II)I"⟩ : Cond) ∈ c1 :: gT := List.mem_cons_of_mem _ wd475
theorem wd476 : (.code ⟨"RollingBallsLaw", "cell", "([II)I"⟩ method_2_code 2 (some .int) : Cond) ∈ gT := List.mem_filter.mpr ⟨List.mem_of_getElem? (i := 476) (by decide +kernel), (by decide +kernel)⟩
theorem we476 {c1 : Cond} : (.code ⟨"RollingBallsLaw", "cell", "([II)I"⟩ method_2_code 2 (some .int) : Cond) ∈ c1 :: gT := List.mem_cons_of_mem _ wd476
theorem wd477 : (.methodLink "RollingBallsLaw" 60 ⟨"RollingBallsLaw", "height", "(LRollingBalls;III[J)I"⟩ : Cond) ∈ gT := List.mem_filter.mpr ⟨List.mem_of_getElem? (i := 477) (by decide +kernel), (by decide +kernel)⟩
theorem we477 {c1 : Cond} : (.methodLink "RollingBallsLaw" 60 ⟨"RollingBallsLaw", "height", "(LRollingBalls;III[J)I"⟩ : Cond) ∈ c1 :: gT := List.mem_cons_of_mem _ wd477
theorem wd478 : (.static ⟨"RollingBallsLaw", "height", "(LRollingBalls;III[J)I"⟩ : Cond) ∈ gT := List.mem_filter.mpr ⟨List.mem_of_getElem? (i := 478) (by decide +kernel), (by decide +kernel)⟩
theorem we478 {c1 : Cond} : (.static ⟨"RollingBallsLaw", "height", "(LRollingBalls;III[J)I"⟩ : Cond) ∈ c1 :: gT := List.mem_cons_of_mem _ wd478
theorem wd479 : (.codeWith ⟨"RollingBallsLaw", "height", "(LRollingBalls;III[J)I"⟩ method_3_code 6 (some .int) [(0, 12, 15, 13)] : Cond) ∈ gT := List.mem_filter.mpr ⟨List.mem_of_getElem? (i := 479) (by decide +kernel), (by decide +kernel)⟩
theorem we479 {c1 : Cond} : (.codeWith ⟨"RollingBallsLaw", "height", "(LRollingBalls;III[J)I"⟩ method_3_code 6 (some .int) [(0, 12, 15, 13)] : Cond) ∈ c1 :: gT := List.mem_cons_of_mem _ wd479
theorem wd480 : (.classLink "RollingBallsLaw" 13 "java/lang/IllegalArgumentException" : Cond) ∈ gT := List.mem_filter.mpr ⟨List.mem_of_getElem? (i := 480) (by decide +kernel), (by decide +kernel)⟩
theorem we480 {c1 : Cond} : (.classLink "RollingBallsLaw" 13 "java/lang/IllegalArgumentException" : Cond) ∈ c1 :: gT := List.mem_cons_of_mem _ wd480
theorem wd481 : (.methodLink "RollingBallsLaw" 7 ⟨"RollingBalls", "height", "(III)I"⟩ : Cond) ∈ gT := List.mem_filter.mpr ⟨List.mem_of_getElem? (i := 481) (by decide +kernel), (by decide +kernel)⟩
theorem we481 {c1 : Cond} : (.methodLink "RollingBallsLaw" 7 ⟨"RollingBalls", "height", "(III)I"⟩ : Cond) ∈ c1 :: gT := List.mem_cons_of_mem _ wd481
theorem wd482 : (.instanceMethod ⟨"RollingBalls", "height", "(III)I"⟩ : Cond) ∈ gT := List.mem_filter.mpr ⟨List.mem_of_getElem? (i := 482) (by decide +kernel), (by decide +kernel)⟩
theorem we482 {c1 : Cond} : (.instanceMethod ⟨"RollingBalls", "height", "(III)I"⟩ : Cond) ∈ c1 :: gT := List.mem_cons_of_mem _ wd482
theorem wd483 : (.selects "RollingBalls" ⟨"RollingBalls", "height", "(III)I"⟩ ⟨"RollingBalls", "height", "(III)I"⟩ : Cond) ∈ gT := List.mem_filter.mpr ⟨List.mem_of_getElem? (i := 483) (by decide +kernel), (by decide +kernel)⟩
theorem we483 {c1 : Cond} : (.selects "RollingBalls" ⟨"RollingBalls", "height", "(III)I"⟩ ⟨"RollingBalls", "height", "(III)I"⟩ : Cond) ∈ c1 :: gT := List.mem_cons_of_mem _ wd483
theorem wd484 : (.code ⟨"RollingBalls", "height", "(III)I"⟩ prog_1_method_2_code 6 (some .int) : Cond) ∈ gT := List.mem_filter.mpr ⟨List.mem_of_getElem? (i := 484) (by decide +kernel), (by decide +kernel)⟩
theorem we484 {c1 : Cond} : (.code ⟨"RollingBalls", "height", "(III)I"⟩ prog_1_method_2_code 6 (some .int) : Cond) ∈ c1 :: gT := List.mem_cons_of_mem _ wd484
theorem wd485 : (.methodLink "RollingBalls" 57 ⟨"RollingBalls", "pointAt", "(II)I"⟩ : Cond) ∈ gT := List.mem_filter.mpr ⟨List.mem_of_getElem? (i := 485) (by decide +kernel), (by decide +kernel)⟩
theorem we485 {c1 : Cond} : (.methodLink "RollingBalls" 57 ⟨"RollingBalls", "pointAt", "(II)I"⟩ : Cond) ∈ c1 :: gT := List.mem_cons_of_mem _ wd485
theorem wd487 : (.instanceMethod ⟨"RollingBalls", "pointAt", "(II)I"⟩ : Cond) ∈ gT := List.mem_filter.mpr ⟨List.mem_of_getElem? (i := 487) (by decide +kernel), (by decide +kernel)⟩
theorem we487 {c1 : Cond} : (.instanceMethod ⟨"RollingBalls", "pointAt", "(II)I"⟩ : Cond) ∈ c1 :: gT := List.mem_cons_of_mem _ wd487
theorem wd488 : (.code ⟨"RollingBalls", "pointAt", "(II)I"⟩ prog_1_method_18_code 3 (some .int) : Cond) ∈ gT := List.mem_filter.mpr ⟨List.mem_of_getElem? (i := 488) (by decide +kernel), (by decide +kernel)⟩
theorem we488 {c1 : Cond} : (.code ⟨"RollingBalls", "pointAt", "(II)I"⟩ prog_1_method_18_code 3 (some .int) : Cond) ∈ c1 :: gT := List.mem_cons_of_mem _ wd488
theorem wd489 : (.methodLink "RollingBalls" 61 ⟨"RollingBalls", "needNumber", "(III)V"⟩ : Cond) ∈ gT := List.mem_filter.mpr ⟨List.mem_of_getElem? (i := 489) (by decide +kernel), (by decide +kernel)⟩
theorem we489 {c1 : Cond} : (.methodLink "RollingBalls" 61 ⟨"RollingBalls", "needNumber", "(III)V"⟩ : Cond) ∈ c1 :: gT := List.mem_cons_of_mem _ wd489
theorem wd490 : (.static ⟨"RollingBalls", "needNumber", "(III)V"⟩ : Cond) ∈ gT := List.mem_filter.mpr ⟨List.mem_of_getElem? (i := 490) (by decide +kernel), (by decide +kernel)⟩
theorem we490 {c1 : Cond} : (.static ⟨"RollingBalls", "needNumber", "(III)V"⟩ : Cond) ∈ c1 :: gT := List.mem_cons_of_mem _ wd490
theorem wd491 : (.code ⟨"RollingBalls", "needNumber", "(III)V"⟩ prog_1_method_21_code 3 none : Cond) ∈ gT := List.mem_filter.mpr ⟨List.mem_of_getElem? (i := 491) (by decide +kernel), (by decide +kernel)⟩
theorem we491 {c1 : Cond} : (.code ⟨"RollingBalls", "needNumber", "(III)V"⟩ prog_1_method_21_code 3 none : Cond) ∈ c1 :: gT := List.mem_cons_of_mem _ wd491
theorem wd492 : (.classLink "RollingBalls" 103 "java/lang/IllegalArgumentException" : Cond) ∈ gT := List.mem_filter.mpr ⟨List.mem_of_getElem? (i := 492) (by decide +kernel), (by decide +kernel)⟩
theorem we492 {c1 : Cond} : (.classLink "RollingBalls" 103 "java/lang/IllegalArgumentException" : Cond) ∈ c1 :: gT := List.mem_cons_of_mem _ wd492
theorem wd493 : (.instantiable "java/lang/IllegalArgumentException" 6 : Cond) ∈ gT := List.mem_filter.mpr ⟨List.mem_of_getElem? (i := 493) (by decide +kernel), (by decide +kernel)⟩
theorem we493 {c1 : Cond} : (.instantiable "java/lang/IllegalArgumentException" 6 : Cond) ∈ c1 :: gT := List.mem_cons_of_mem _ wd493
theorem wd501 : (.selects "java/lang/IllegalArgumentException" ⟨"java/lang/Throwable", "fillInStackTrace", "(I)Ljava/lang/Throwable;"⟩ ⟨"java/lang/Throwable", "fillInStackTrace", "(I)Ljava/lang/Throwable;"⟩ : Cond) ∈ gT := List.mem_filter.mpr ⟨List.mem_of_getElem? (i := 501) (by decide +kernel), (by decide +kernel)⟩
theorem we501 {c1 : Cond} : (.selects "java/lang/IllegalArgumentException" ⟨"java/lang/Throwable", "fillInStackTrace", "(I)Ljava/lang/Throwable;"⟩ ⟨"java/lang/Throwable", "fillInStackTrace", "(I)Ljava/lang/Throwable;"⟩ : Cond) ∈ c1 :: gT := List.mem_cons_of_mem _ wd501
theorem wd502 : (.selects "java/lang/IllegalArgumentException" ⟨"java/lang/Throwable", "fillInStackTrace", "()Ljava/lang/Throwable;"⟩ ⟨"java/lang/Throwable", "fillInStackTrace", "()Ljava/lang/Throwable;"⟩ : Cond) ∈ gT := List.mem_filter.mpr ⟨List.mem_of_getElem? (i := 502) (by decide +kernel), (by decide +kernel)⟩
theorem we502 {c1 : Cond} : (.selects "java/lang/IllegalArgumentException" ⟨"java/lang/Throwable", "fillInStackTrace", "()Ljava/lang/Throwable;"⟩ ⟨"java/lang/Throwable", "fillInStackTrace", "()Ljava/lang/Throwable;"⟩ : Cond) ∈ c1 :: gT := List.mem_cons_of_mem _ wd502
theorem wd503 : (.lays "java/lang/IllegalArgumentException" "java/lang/Throwable" "cause" "Ljava/lang/Throwable;" : Cond) ∈ gT := List.mem_filter.mpr ⟨List.mem_of_getElem? (i := 503) (by decide +kernel), (by decide +kernel)⟩
theorem we503 {c1 : Cond} : (.lays "java/lang/IllegalArgumentException" "java/lang/Throwable" "cause" "Ljava/lang/Throwable;" : Cond) ∈ c1 :: gT := List.mem_cons_of_mem _ wd503
theorem wd504 : (.lays "java/lang/Throwable" "java/lang/Throwable" "cause" "Ljava/lang/Throwable;" : Cond) ∈ gT := List.mem_filter.mpr ⟨List.mem_of_getElem? (i := 504) (by decide +kernel), (by decide +kernel)⟩
theorem we504 {c1 : Cond} : (.lays "java/lang/Throwable" "java/lang/Throwable" "cause" "Ljava/lang/Throwable;" : Cond) ∈ c1 :: gT := List.mem_cons_of_mem _ wd504
theorem wd505 : (.lays "java/lang/IllegalArgumentException" "java/lang/Throwable" "stackTrace" "[Ljava/lang/StackTraceElement;" : Cond) ∈ gT := List.mem_filter.mpr ⟨List.mem_of_getElem? (i := 505) (by decide +kernel), (by decide +kernel)⟩
theorem we505 {c1 : Cond} : (.lays "java/lang/IllegalArgumentException" "java/lang/Throwable" "stackTrace" "[Ljava/lang/StackTraceElement;" : Cond) ∈ c1 :: gT := List.mem_cons_of_mem _ wd505
theorem wd506 : (.lays "java/lang/Throwable" "java/lang/Throwable" "stackTrace" "[Ljava/lang/StackTraceElement;" : Cond) ∈ gT := List.mem_filter.mpr ⟨List.mem_of_getElem? (i := 506) (by decide +kernel), (by decide +kernel)⟩
theorem we506 {c1 : Cond} : (.lays "java/lang/Throwable" "java/lang/Throwable" "stackTrace" "[Ljava/lang/StackTraceElement;" : Cond) ∈ c1 :: gT := List.mem_cons_of_mem _ wd506
theorem wd507 : (.lays "java/lang/IllegalArgumentException" "java/lang/Throwable" "suppressedExceptions" "Ljava/util/List;" : Cond) ∈ gT := List.mem_filter.mpr ⟨List.mem_of_getElem? (i := 507) (by decide +kernel), (by decide +kernel)⟩
theorem we507 {c1 : Cond} : (.lays "java/lang/IllegalArgumentException" "java/lang/Throwable" "suppressedExceptions" "Ljava/util/List;" : Cond) ∈ c1 :: gT := List.mem_cons_of_mem _ wd507
theorem wd508 : (.lays "java/lang/Throwable" "java/lang/Throwable" "suppressedExceptions" "Ljava/util/List;" : Cond) ∈ gT := List.mem_filter.mpr ⟨List.mem_of_getElem? (i := 508) (by decide +kernel), (by decide +kernel)⟩
theorem we508 {c1 : Cond} : (.lays "java/lang/Throwable" "java/lang/Throwable" "suppressedExceptions" "Ljava/util/List;" : Cond) ∈ c1 :: gT := List.mem_cons_of_mem _ wd508
theorem wd509 : (.lays "java/lang/IllegalArgumentException" "java/lang/Throwable" "detailMessage" "Ljava/lang/String;" : Cond) ∈ gT := List.mem_filter.mpr ⟨List.mem_of_getElem? (i := 509) (by decide +kernel), (by decide +kernel)⟩
theorem we509 {c1 : Cond} : (.lays "java/lang/IllegalArgumentException" "java/lang/Throwable" "detailMessage" "Ljava/lang/String;" : Cond) ∈ c1 :: gT := List.mem_cons_of_mem _ wd509
theorem wd510 : (.lays "java/lang/Throwable" "java/lang/Throwable" "detailMessage" "Ljava/lang/String;" : Cond) ∈ gT := List.mem_filter.mpr ⟨List.mem_of_getElem? (i := 510) (by decide +kernel), (by decide +kernel)⟩
theorem we510 {c1 : Cond} : (.lays "java/lang/Throwable" "java/lang/Throwable" "detailMessage" "Ljava/lang/String;" : Cond) ∈ c1 :: gT := List.mem_cons_of_mem _ wd510
theorem wd511 : (.lays "java/lang/IllegalArgumentException" "java/lang/Throwable" "backtrace" "Ljava/lang/Object;" : Cond) ∈ gT := List.mem_filter.mpr ⟨List.mem_of_getElem? (i := 511) (by decide +kernel), (by decide +kernel)⟩
theorem we511 {c1 : Cond} : (.lays "java/lang/IllegalArgumentException" "java/lang/Throwable" "backtrace" "Ljava/lang/Object;" : Cond) ∈ c1 :: gT := List.mem_cons_of_mem _ wd511
theorem wd512 : (.lays "java/lang/Throwable" "java/lang/Throwable" "backtrace" "Ljava/lang/Object;" : Cond) ∈ gT := List.mem_filter.mpr ⟨List.mem_of_getElem? (i := 512) (by decide +kernel), (by decide +kernel)⟩
theorem we512 {c1 : Cond} : (.lays "java/lang/Throwable" "java/lang/Throwable" "backtrace" "Ljava/lang/Object;" : Cond) ∈ c1 :: gT := List.mem_cons_of_mem _ wd512
theorem wd513 : (.fieldLink "java/lang/Throwable" 198 "java/lang/Throwable" "backtrace" "Ljava/lang/Object;" : Cond) ∈ gT := List.mem_filter.mpr ⟨List.mem_of_getElem? (i := 513) (by decide +kernel), (by decide +kernel)⟩
theorem we513 {c1 : Cond} : (.fieldLink "java/lang/Throwable" 198 "java/lang/Throwable" "backtrace" "Ljava/lang/Object;" : Cond) ∈ c1 :: gT := List.mem_cons_of_mem _ wd513
theorem wd515 : (.instanceMethod ⟨"java/lang/Throwable", "<init>", "()V"⟩ : Cond) ∈ gT := List.mem_filter.mpr ⟨List.mem_of_getElem? (i := 515) (by decide +kernel), (by decide +kernel)⟩
theorem we515 {c1 : Cond} : (.instanceMethod ⟨"java/lang/Throwable", "<init>", "()V"⟩ : Cond) ∈ c1 :: gT := List.mem_cons_of_mem _ wd515
theorem wd516 : (.code ⟨"java/lang/Throwable", "<init>", "()V"⟩ prog_17_method_1_code 1 none : Cond) ∈ gT := List.mem_filter.mpr ⟨List.mem_of_getElem? (i := 516) (by decide +kernel), (by decide +kernel)⟩
theorem we516 {c1 : Cond} : (.code ⟨"java/lang/Throwable", "<init>", "()V"⟩ prog_17_method_1_code 1 none : Cond) ∈ c1 :: gT := List.mem_cons_of_mem _ wd516
theorem wd517 : (.methodLink "java/lang/Throwable" 1 ⟨"java/lang/Object", "<init>", "()V"⟩ : Cond) ∈ gT := List.mem_filter.mpr ⟨List.mem_of_getElem? (i := 517) (by decide +kernel), (by decide +kernel)⟩
theorem we517 {c1 : Cond} : (.methodLink "java/lang/Throwable" 1 ⟨"java/lang/Object", "<init>", "()V"⟩ : Cond) ∈ c1 :: gT := List.mem_cons_of_mem _ wd517
theorem wd518 : (.fieldLink "java/lang/Throwable" 13 "java/lang/Throwable" "UNASSIGNED_STACK" "[Ljava/lang/StackTraceElement;" : Cond) ∈ gT := List.mem_filter.mpr ⟨List.mem_of_getElem? (i := 518) (by decide +kernel), (by decide +kernel)⟩
theorem we518 {c1 : Cond} : (.fieldLink "java/lang/Throwable" 13 "java/lang/Throwable" "UNASSIGNED_STACK" "[Ljava/lang/StackTraceElement;" : Cond) ∈ c1 :: gT := List.mem_cons_of_mem _ wd518
theorem wd520 : (.fieldLink "java/lang/Throwable" 20 "java/lang/Throwable" "SUPPRESSED_SENTINEL" "Ljava/util/List;" : Cond) ∈ gT := List.mem_filter.mpr ⟨List.mem_of_getElem? (i := 520) (by decide +kernel), (by decide +kernel)⟩
theorem we520 {c1 : Cond} : (.fieldLink "java/lang/Throwable" 20 "java/lang/Throwable" "SUPPRESSED_SENTINEL" "Ljava/util/List;" : Cond) ∈ c1 :: gT := List.mem_cons_of_mem _ wd520
theorem wd522 : (.methodLink "java/lang/Throwable" 27 ⟨"java/lang/Throwable", "fillInStackTrace", "()Ljava/lang/Throwable;"⟩ : Cond) ∈ gT := List.mem_filter.mpr ⟨List.mem_of_getElem? (i := 522) (by decide +kernel), (by decide +kernel)⟩
theorem we522 {c1 : Cond} : (.methodLink "java/lang/Throwable" 27 ⟨"java/lang/Throwable", "fillInStackTrace", "()Ljava/lang/Throwable;"⟩ : Cond) ∈ c1 :: gT := List.mem_cons_of_mem _ wd522
theorem wd523 : (.instanceMethod ⟨"java/lang/Throwable", "fillInStackTrace", "()Ljava/lang/Throwable;"⟩ : Cond) ∈ gT := List.mem_filter.mpr ⟨List.mem_of_getElem? (i := 523) (by decide +kernel), (by decide +kernel)⟩
theorem we523 {c1 : Cond} : (.instanceMethod ⟨"java/lang/Throwable", "fillInStackTrace", "()Ljava/lang/Throwable;"⟩ : Cond) ∈ c1 :: gT := List.mem_cons_of_mem _ wd523
theorem wd525 : (.selects "java/lang/IllegalStateException" ⟨"java/lang/Throwable", "fillInStackTrace", "()Ljava/lang/Throwable;"⟩ ⟨"java/lang/Throwable", "fillInStackTrace", "()Ljava/lang/Throwable;"⟩ : Cond) ∈ gT := List.mem_filter.mpr ⟨List.mem_of_getElem? (i := 525) (by decide +kernel), (by decide +kernel)⟩
theorem we525 {c1 : Cond} : (.selects "java/lang/IllegalStateException" ⟨"java/lang/Throwable", "fillInStackTrace", "()Ljava/lang/Throwable;"⟩ ⟨"java/lang/Throwable", "fillInStackTrace", "()Ljava/lang/Throwable;"⟩ : Cond) ∈ c1 :: gT := List.mem_cons_of_mem _ wd525
theorem wd527 : (.methodLink "java/lang/Throwable" 202 ⟨"java/lang/Throwable", "fillInStackTrace", "(I)Ljava/lang/Throwable;"⟩ : Cond) ∈ gT := List.mem_filter.mpr ⟨List.mem_of_getElem? (i := 527) (by decide +kernel), (by decide +kernel)⟩
theorem we527 {c1 : Cond} : (.methodLink "java/lang/Throwable" 202 ⟨"java/lang/Throwable", "fillInStackTrace", "(I)Ljava/lang/Throwable;"⟩ : Cond) ∈ c1 :: gT := List.mem_cons_of_mem _ wd527
theorem wd529 : (.instanceMethod ⟨"java/lang/Throwable", "fillInStackTrace", "(I)Ljava/lang/Throwable;"⟩ : Cond) ∈ gT := List.mem_filter.mpr ⟨List.mem_of_getElem? (i := 529) (by decide +kernel), (by decide +kernel)⟩
theorem we529 {c1 : Cond} : (.instanceMethod ⟨"java/lang/Throwable", "fillInStackTrace", "(I)Ljava/lang/Throwable;"⟩ : Cond) ∈ c1 :: gT := List.mem_cons_of_mem _ wd529
theorem wd530 : (.instantiable "java/lang/Throwable" 6 : Cond) ∈ gT := List.mem_filter.mpr ⟨List.mem_of_getElem? (i := 530) (by decide +kernel), (by decide +kernel)⟩
theorem we530 {c1 : Cond} : (.instantiable "java/lang/Throwable" 6 : Cond) ∈ c1 :: gT := List.mem_cons_of_mem _ wd530
theorem wd531 : (.native ⟨"java/lang/Throwable", "fillInStackTrace", "(I)Ljava/lang/Throwable;"⟩ : Cond) ∈ gT := List.mem_filter.mpr ⟨List.mem_of_getElem? (i := 531) (by decide +kernel), (by decide +kernel)⟩
theorem we531 {c1 : Cond} : (.native ⟨"java/lang/Throwable", "fillInStackTrace", "(I)Ljava/lang/Throwable;"⟩ : Cond) ∈ c1 :: gT := List.mem_cons_of_mem _ wd531
theorem wd533 : (.methodLink "RollingBalls" 107 ⟨"java/lang/IllegalArgumentException", "<init>", "(Ljava/lang/String;)V"⟩ : Cond) ∈ gT := List.mem_filter.mpr ⟨List.mem_of_getElem? (i := 533) (by decide +kernel), (by decide +kernel)⟩
theorem we533 {c1 : Cond} : (.methodLink "RollingBalls" 107 ⟨"java/lang/IllegalArgumentException", "<init>", "(Ljava/lang/String;)V"⟩ : Cond) ∈ c1 :: gT := List.mem_cons_of_mem _ wd533
theorem wd534 : (.instanceMethod ⟨"java/lang/IllegalArgumentException", "<init>", "(Ljava/lang/String;)V"⟩ : Cond) ∈ gT := List.mem_filter.mpr ⟨List.mem_of_getElem? (i := 534) (by decide +kernel), (by decide +kernel)⟩
theorem we534 {c1 : Cond} : (.instanceMethod ⟨"java/lang/IllegalArgumentException", "<init>", "(Ljava/lang/String;)V"⟩ : Cond) ∈ c1 :: gT := List.mem_cons_of_mem _ wd534
theorem wd535 : (.code ⟨"java/lang/IllegalArgumentException", "<init>", "(Ljava/lang/String;)V"⟩ prog_10_method_2_code 2 none : Cond) ∈ gT := List.mem_filter.mpr ⟨List.mem_of_getElem? (i := 535) (by decide +kernel), (by decide +kernel)⟩
theorem we535 {c1 : Cond} : (.code ⟨"java/lang/IllegalArgumentException", "<init>", "(Ljava/lang/String;)V"⟩ prog_10_method_2_code 2 none : Cond) ∈ c1 :: gT := List.mem_cons_of_mem _ wd535
theorem wd536 : (.methodLink "java/lang/IllegalArgumentException" 7 ⟨"java/lang/RuntimeException", "<init>", "(Ljava/lang/String;)V"⟩ : Cond) ∈ gT := List.mem_filter.mpr ⟨List.mem_of_getElem? (i := 536) (by decide +kernel), (by decide +kernel)⟩
theorem we536 {c1 : Cond} : (.methodLink "java/lang/IllegalArgumentException" 7 ⟨"java/lang/RuntimeException", "<init>", "(Ljava/lang/String;)V"⟩ : Cond) ∈ c1 :: gT := List.mem_cons_of_mem _ wd536
theorem wd537 : (.instanceMethod ⟨"java/lang/RuntimeException", "<init>", "(Ljava/lang/String;)V"⟩ : Cond) ∈ gT := List.mem_filter.mpr ⟨List.mem_of_getElem? (i := 537) (by decide +kernel), (by decide +kernel)⟩
theorem we537 {c1 : Cond} : (.instanceMethod ⟨"java/lang/RuntimeException", "<init>", "(Ljava/lang/String;)V"⟩ : Cond) ∈ c1 :: gT := List.mem_cons_of_mem _ wd537
theorem wd538 : (.code ⟨"java/lang/RuntimeException", "<init>", "(Ljava/lang/String;)V"⟩ prog_14_method_2_code 2 none : Cond) ∈ gT := List.mem_filter.mpr ⟨List.mem_of_getElem? (i := 538) (by decide +kernel), (by decide +kernel)⟩
theorem we538 {c1 : Cond} : (.code ⟨"java/lang/RuntimeException", "<init>", "(Ljava/lang/String;)V"⟩ prog_14_method_2_code 2 none : Cond) ∈ c1 :: gT := List.mem_cons_of_mem _ wd538
theorem wd539 : (.methodLink "java/lang/RuntimeException" 7 ⟨"java/lang/Exception", "<init>", "(Ljava/lang/String;)V"⟩ : Cond) ∈ gT := List.mem_filter.mpr ⟨List.mem_of_getElem? (i := 539) (by decide +kernel), (by decide +kernel)⟩
theorem we539 {c1 : Cond} : (.methodLink "java/lang/RuntimeException" 7 ⟨"java/lang/Exception", "<init>", "(Ljava/lang/String;)V"⟩ : Cond) ∈ c1 :: gT := List.mem_cons_of_mem _ wd539
theorem wd540 : (.instanceMethod ⟨"java/lang/Exception", "<init>", "(Ljava/lang/String;)V"⟩ : Cond) ∈ gT := List.mem_filter.mpr ⟨List.mem_of_getElem? (i := 540) (by decide +kernel), (by decide +kernel)⟩
theorem we540 {c1 : Cond} : (.instanceMethod ⟨"java/lang/Exception", "<init>", "(Ljava/lang/String;)V"⟩ : Cond) ∈ c1 :: gT := List.mem_cons_of_mem _ wd540
theorem wd541 : (.code ⟨"java/lang/Exception", "<init>", "(Ljava/lang/String;)V"⟩ prog_9_method_2_code 2 none : Cond) ∈ gT := List.mem_filter.mpr ⟨List.mem_of_getElem? (i := 541) (by decide +kernel), (by decide +kernel)⟩
theorem we541 {c1 : Cond} : (.code ⟨"java/lang/Exception", "<init>", "(Ljava/lang/String;)V"⟩ prog_9_method_2_code 2 none : Cond) ∈ c1 :: gT := List.mem_cons_of_mem _ wd541
theorem wd542 : (.methodLink "java/lang/Exception" 7 ⟨"java/lang/Throwable", "<init>", "(Ljava/lang/String;)V"⟩ : Cond) ∈ gT := List.mem_filter.mpr ⟨List.mem_of_getElem? (i := 542) (by decide +kernel), (by decide +kernel)⟩
theorem we542 {c1 : Cond} : (.methodLink "java/lang/Exception" 7 ⟨"java/lang/Throwable", "<init>", "(Ljava/lang/String;)V"⟩ : Cond) ∈ c1 :: gT := List.mem_cons_of_mem _ wd542
theorem wd543 : (.instanceMethod ⟨"java/lang/Throwable", "<init>", "(Ljava/lang/String;)V"⟩ : Cond) ∈ gT := List.mem_filter.mpr ⟨List.mem_of_getElem? (i := 543) (by decide +kernel), (by decide +kernel)⟩
theorem we543 {c1 : Cond} : (.instanceMethod ⟨"java/lang/Throwable", "<init>", "(Ljava/lang/String;)V"⟩ : Cond) ∈ c1 :: gT := List.mem_cons_of_mem _ wd543
theorem wd544 : (.code ⟨"java/lang/Throwable", "<init>", "(Ljava/lang/String;)V"⟩ prog_17_method_2_code 2 none : Cond) ∈ gT := List.mem_filter.mpr ⟨List.mem_of_getElem? (i := 544) (by decide +kernel), (by decide +kernel)⟩
theorem we544 {c1 : Cond} : (.code ⟨"java/lang/Throwable", "<init>", "(Ljava/lang/String;)V"⟩ prog_17_method_2_code 2 none : Cond) ∈ c1 :: gT := List.mem_cons_of_mem _ wd544
theorem wd546 : (.fieldLink "java/lang/Throwable" 31 "java/lang/Throwable" "detailMessage" "Ljava/lang/String;" : Cond) ∈ gT := List.mem_filter.mpr ⟨List.mem_of_getElem? (i := 546) (by decide +kernel), (by decide +kernel)⟩
theorem we546 {c1 : Cond} : (.fieldLink "java/lang/Throwable" 31 "java/lang/Throwable" "detailMessage" "Ljava/lang/String;" : Cond) ∈ c1 :: gT := List.mem_cons_of_mem _ wd546
theorem wd547 : (.fieldLink "java/lang/Throwable" 7 "java/lang/Throwable" "cause" "Ljava/lang/Throwable;" : Cond) ∈ gT := List.mem_filter.mpr ⟨List.mem_of_getElem? (i := 547) (by decide +kernel), (by decide +kernel)⟩
theorem we547 {c1 : Cond} : (.fieldLink "java/lang/Throwable" 7 "java/lang/Throwable" "cause" "Ljava/lang/Throwable;" : Cond) ∈ c1 :: gT := List.mem_cons_of_mem _ wd547
theorem wd548 : (.fieldLink "java/lang/Throwable" 17 "java/lang/Throwable" "stackTrace" "[Ljava/lang/StackTraceElement;" : Cond) ∈ gT := List.mem_filter.mpr ⟨List.mem_of_getElem? (i := 548) (by decide +kernel), (by decide +kernel)⟩
theorem we548 {c1 : Cond} : (.fieldLink "java/lang/Throwable" 17 "java/lang/Throwable" "stackTrace" "[Ljava/lang/StackTraceElement;" : Cond) ∈ c1 :: gT := List.mem_cons_of_mem _ wd548
theorem wd549 : (.fieldLink "java/lang/Throwable" 24 "java/lang/Throwable" "suppressedExceptions" "Ljava/util/List;" : Cond) ∈ gT := List.mem_filter.mpr ⟨List.mem_of_getElem? (i := 549) (by decide +kernel), (by decide +kernel)⟩
theorem we549 {c1 : Cond} : (.fieldLink "java/lang/Throwable" 24 "java/lang/Throwable" "suppressedExceptions" "Ljava/util/List;" : Cond) ∈ c1 :: gT := List.mem_cons_of_mem _ wd549
theorem wd554 : (.lays "java/lang/IllegalArgumentException" "java/lang/Throwable" "depth" "I" : Cond) ∈ gT := List.mem_filter.mpr ⟨List.mem_of_getElem? (i := 554) (by decide +kernel), (by decide +kernel)⟩
theorem we554 {c1 : Cond} : (.lays "java/lang/IllegalArgumentException" "java/lang/Throwable" "depth" "I" : Cond) ∈ c1 :: gT := List.mem_cons_of_mem _ wd554
theorem wd558 : (.arrayClass .byte : Cond) ∈ gT := List.mem_filter.mpr ⟨List.mem_of_getElem? (i := 558) (by decide +kernel), (by decide +kernel)⟩
theorem we558 {c1 : Cond} : (.arrayClass .byte : Cond) ∈ c1 :: gT := List.mem_cons_of_mem _ wd558
theorem wd559 : (.methodLink "RollingBallsLaw" 68 ⟨"RollingBallsLaw", "rod", "(LRollingBalls;III[J)I"⟩ : Cond) ∈ gT := List.mem_filter.mpr ⟨List.mem_of_getElem? (i := 559) (by decide +kernel), (by decide +kernel)⟩
theorem we559 {c1 : Cond} : (.methodLink "RollingBallsLaw" 68 ⟨"RollingBallsLaw", "rod", "(LRollingBalls;III[J)I"⟩ : Cond) ∈ c1 :: gT := List.mem_cons_of_mem _ wd559
theorem wd560 : (.static ⟨"RollingBallsLaw", "rod", "(LRollingBalls;III[J)I"⟩ : Cond) ∈ gT := List.mem_filter.mpr ⟨List.mem_of_getElem? (i := 560) (by decide +kernel), (by decide +kernel)⟩
theorem we560 {c1 : Cond} : (.static ⟨"RollingBallsLaw", "rod", "(LRollingBalls;III[J)I"⟩ : Cond) ∈ c1 :: gT := List.mem_cons_of_mem _ wd560
theorem wd561 : (.codeWith ⟨"RollingBallsLaw", "rod", "(LRollingBalls;III[J)I"⟩ method_4_code 6 (some .int) [(0, 12, 15, 13)] : Cond) ∈ gT := List.mem_filter.mpr ⟨List.mem_of_getElem? (i := 561) (by decide +kernel), (by decide +kernel)⟩
theorem we561 {c1 : Cond} : (.codeWith ⟨"RollingBallsLaw", "rod", "(LRollingBalls;III[J)I"⟩ method_4_code 6 (some .int) [(0, 12, 15, 13)] : Cond) ∈ c1 :: gT := List.mem_cons_of_mem _ wd561
theorem wd562 : (.methodLink "RollingBallsLaw" 15 ⟨"RollingBalls", "rod", "(III)I"⟩ : Cond) ∈ gT := List.mem_filter.mpr ⟨List.mem_of_getElem? (i := 562) (by decide +kernel), (by decide +kernel)⟩
theorem we562 {c1 : Cond} : (.methodLink "RollingBallsLaw" 15 ⟨"RollingBalls", "rod", "(III)I"⟩ : Cond) ∈ c1 :: gT := List.mem_cons_of_mem _ wd562
theorem wd563 : (.instanceMethod ⟨"RollingBalls", "rod", "(III)I"⟩ : Cond) ∈ gT := List.mem_filter.mpr ⟨List.mem_of_getElem? (i := 563) (by decide +kernel), (by decide +kernel)⟩
theorem we563 {c1 : Cond} : (.instanceMethod ⟨"RollingBalls", "rod", "(III)I"⟩ : Cond) ∈ c1 :: gT := List.mem_cons_of_mem _ wd563
theorem wd564 : (.selects "RollingBalls" ⟨"RollingBalls", "rod", "(III)I"⟩ ⟨"RollingBalls", "rod", "(III)I"⟩ : Cond) ∈ gT := List.mem_filter.mpr ⟨List.mem_of_getElem? (i := 564) (by decide +kernel), (by decide +kernel)⟩
theorem we564 {c1 : Cond} : (.selects "RollingBalls" ⟨"RollingBalls", "rod", "(III)I"⟩ ⟨"RollingBalls", "rod", "(III)I"⟩ : Cond) ∈ c1 :: gT := List.mem_cons_of_mem _ wd564
theorem wd565 : (.code ⟨"RollingBalls", "rod", "(III)I"⟩ prog_1_method_3_code 6 (some .int) : Cond) ∈ gT := List.mem_filter.mpr ⟨List.mem_of_getElem? (i := 565) (by decide +kernel), (by decide +kernel)⟩
theorem we565 {c1 : Cond} : (.code ⟨"RollingBalls", "rod", "(III)I"⟩ prog_1_method_3_code 6 (some .int) : Cond) ∈ c1 :: gT := List.mem_cons_of_mem _ wd565
theorem wd566 : (.methodLink "RollingBallsLaw" 71 ⟨"RollingBallsLaw", "rest", "(LRollingBalls;III[J)I"⟩ : Cond) ∈ gT := List.mem_filter.mpr ⟨List.mem_of_getElem? (i := 566) (by decide +kernel), (by decide +kernel)⟩
theorem we566 {c1 : Cond} : (.methodLink "RollingBallsLaw" 71 ⟨"RollingBallsLaw", "rest", "(LRollingBalls;III[J)I"⟩ : Cond) ∈ c1 :: gT := List.mem_cons_of_mem _ wd566
theorem wd567 : (.static ⟨"RollingBallsLaw", "rest", "(LRollingBalls;III[J)I"⟩ : Cond) ∈ gT := List.mem_filter.mpr ⟨List.mem_of_getElem? (i := 567) (by decide +kernel), (by decide +kernel)⟩
theorem we567 {c1 : Cond} : (.static ⟨"RollingBallsLaw", "rest", "(LRollingBalls;III[J)I"⟩ : Cond) ∈ c1 :: gT := List.mem_cons_of_mem _ wd567
theorem wd568 : (.codeWith ⟨"RollingBallsLaw", "rest", "(LRollingBalls;III[J)I"⟩ method_5_code 6 (some .int) [(0, 12, 15, 13)] : Cond) ∈ gT := List.mem_filter.mpr ⟨List.mem_of_getElem? (i := 568) (by decide +kernel), (by decide +kernel)⟩
theorem we568 {c1 : Cond} : (.codeWith ⟨"RollingBallsLaw", "rest", "(LRollingBalls;III[J)I"⟩ method_5_code 6 (some .int) [(0, 12, 15, 13)] : Cond) ∈ c1 :: gT := List.mem_cons_of_mem _ wd568
theorem wd569 : (.methodLink "RollingBallsLaw" 18 ⟨"RollingBalls", "rest", "(III)I"⟩ : Cond) ∈ gT := List.mem_filter.mpr ⟨List.mem_of_getElem? (i := 569) (by decide +kernel), (by decide +kernel)⟩
theorem we569 {c1 : Cond} : (.methodLink "RollingBallsLaw" 18 ⟨"RollingBalls", "rest", "(III)I"⟩ : Cond) ∈ c1 :: gT := List.mem_cons_of_mem _ wd569
theorem wd570 : (.instanceMethod ⟨"RollingBalls", "rest", "(III)I"⟩ : Cond) ∈ gT := List.mem_filter.mpr ⟨List.mem_of_getElem? (i := 570) (by decide +kernel), (by decide +kernel)⟩
theorem we570 {c1 : Cond} : (.instanceMethod ⟨"RollingBalls", "rest", "(III)I"⟩ : Cond) ∈ c1 :: gT := List.mem_cons_of_mem _ wd570
theorem wd571 : (.selects "RollingBalls" ⟨"RollingBalls", "rest", "(III)I"⟩ ⟨"RollingBalls", "rest", "(III)I"⟩ : Cond) ∈ gT := List.mem_filter.mpr ⟨List.mem_of_getElem? (i := 571) (by decide +kernel), (by decide +kernel)⟩
theorem we571 {c1 : Cond} : (.selects "RollingBalls" ⟨"RollingBalls", "rest", "(III)I"⟩ ⟨"RollingBalls", "rest", "(III)I"⟩ : Cond) ∈ c1 :: gT := List.mem_cons_of_mem _ wd571
theorem wd572 : (.code ⟨"RollingBalls", "rest", "(III)I"⟩ prog_1_method_4_code 5 (some .int) : Cond) ∈ gT := List.mem_filter.mpr ⟨List.mem_of_getElem? (i := 572) (by decide +kernel), (by decide +kernel)⟩
theorem we572 {c1 : Cond} : (.code ⟨"RollingBalls", "rest", "(III)I"⟩ prog_1_method_4_code 5 (some .int) : Cond) ∈ c1 :: gT := List.mem_cons_of_mem _ wd572
theorem wd573 : (.methodLink "RollingBalls" 81 ⟨"RollingBalls", "needPlace", "(II)V"⟩ : Cond) ∈ gT := List.mem_filter.mpr ⟨List.mem_of_getElem? (i := 573) (by decide +kernel), (by decide +kernel)⟩
theorem we573 {c1 : Cond} : (.methodLink "RollingBalls" 81 ⟨"RollingBalls", "needPlace", "(II)V"⟩ : Cond) ∈ c1 :: gT := List.mem_cons_of_mem _ wd573
theorem wd575 : (.instanceMethod ⟨"RollingBalls", "needPlace", "(II)V"⟩ : Cond) ∈ gT := List.mem_filter.mpr ⟨List.mem_of_getElem? (i := 575) (by decide +kernel), (by decide +kernel)⟩
theorem we575 {c1 : Cond} : (.instanceMethod ⟨"RollingBalls", "needPlace", "(II)V"⟩ : Cond) ∈ c1 :: gT := List.mem_cons_of_mem _ wd575
theorem wd576 : (.code ⟨"RollingBalls", "needPlace", "(II)V"⟩ prog_1_method_19_code 3 none : Cond) ∈ gT := List.mem_filter.mpr ⟨List.mem_of_getElem? (i := 576) (by decide +kernel), (by decide +kernel)⟩
theorem we576 {c1 : Cond} : (.code ⟨"RollingBalls", "needPlace", "(II)V"⟩ prog_1_method_19_code 3 none : Cond) ∈ c1 :: gT := List.mem_cons_of_mem _ wd576
theorem wd577 : (.methodLink "RollingBalls" 84 ⟨"RollingBalls$Ball", "restAt", "(II)I"⟩ : Cond) ∈ gT := List.mem_filter.mpr ⟨List.mem_of_getElem? (i := 577) (by decide +kernel), (by decide +kernel)⟩
theorem we577 {c1 : Cond} : (.methodLink "RollingBalls" 84 ⟨"RollingBalls$Ball", "restAt", "(II)I"⟩ : Cond) ∈ c1 :: gT := List.mem_cons_of_mem _ wd577
theorem wd578 : (.instanceMethod ⟨"RollingBalls$Ball", "restAt", "(II)I"⟩ : Cond) ∈ gT := List.mem_filter.mpr ⟨List.mem_of_getElem? (i := 578) (by decide +kernel), (by decide +kernel)⟩
theorem we578 {c1 : Cond} : (.instanceMethod ⟨"RollingBalls$Ball", "restAt", "(II)I"⟩ : Cond) ∈ c1 :: gT := List.mem_cons_of_mem _ wd578
theorem wd579 : (.selects "RollingBalls$Ball" ⟨"RollingBalls$Ball", "restAt", "(II)I"⟩ ⟨"RollingBalls$Ball", "restAt", "(II)I"⟩ : Cond) ∈ gT := List.mem_filter.mpr ⟨List.mem_of_getElem? (i := 579) (by decide +kernel), (by decide +kernel)⟩
theorem we579 {c1 : Cond} : (.selects "RollingBalls$Ball" ⟨"RollingBalls$Ball", "restAt", "(II)I"⟩ ⟨"RollingBalls$Ball", "restAt", "(II)I"⟩ : Cond) ∈ c1 :: gT := List.mem_cons_of_mem _ wd579
theorem wd580 : (.code ⟨"RollingBalls$Ball", "restAt", "(II)I"⟩ prog_2_method_2_code 3 (some .int) : Cond) ∈ gT := List.mem_filter.mpr ⟨List.mem_of_getElem? (i := 580) (by decide +kernel), (by decide +kernel)⟩
theorem we580 {c1 : Cond} : (.code ⟨"RollingBalls$Ball", "restAt", "(II)I"⟩ prog_2_method_2_code 3 (some .int) : Cond) ∈ c1 :: gT := List.mem_cons_of_mem _ wd580
theorem wd581 : (.methodLink "RollingBalls" 87 ⟨"RollingBalls$Level", "floor", "(I)I"⟩ : Cond) ∈ gT := List.mem_filter.mpr ⟨List.mem_of_getElem? (i := 581) (by decide +kernel), (by decide +kernel)⟩
theorem we581 {c1 : Cond} : (.methodLink "RollingBalls" 87 ⟨"RollingBalls$Level", "floor", "(I)I"⟩ : Cond) ∈ c1 :: gT := List.mem_cons_of_mem _ wd581
theorem wd582 : (.static ⟨"RollingBalls$Level", "floor", "(I)I"⟩ : Cond) ∈ gT := List.mem_filter.mpr ⟨List.mem_of_getElem? (i := 582) (by decide +kernel), (by decide +kernel)⟩
theorem we582 {c1 : Cond} : (.static ⟨"RollingBalls$Level", "floor", "(I)I"⟩ : Cond) ∈ c1 :: gT := List.mem_cons_of_mem _ wd582
theorem wd583 : (.code ⟨"RollingBalls$Level", "floor", "(I)I"⟩ prog_4_method_2_code 1 (some .int) : Cond) ∈ gT := List.mem_filter.mpr ⟨List.mem_of_getElem? (i := 583) (by decide +kernel), (by decide +kernel)⟩
theorem we583 {c1 : Cond} : (.code ⟨"RollingBalls$Level", "floor", "(I)I"⟩ prog_4_method_2_code 1 (some .int) : Cond) ∈ c1 :: gT := List.mem_cons_of_mem _ wd583
theorem wd584 : (.methodLink "RollingBalls" 93 ⟨"RollingBalls$Level", "isWhole", "(I)Z"⟩ : Cond) ∈ gT := List.mem_filter.mpr ⟨List.mem_of_getElem? (i := 584) (by decide +kernel), (by decide +kernel)⟩
theorem we584 {c1 : Cond} : (.methodLink "RollingBalls" 93 ⟨"RollingBalls$Level", "isWhole", "(I)Z"⟩ : Cond) ∈ c1 :: gT := List.mem_cons_of_mem _ wd584
theorem wd585 : (.static ⟨"RollingBalls$Level", "isWhole", "(I)Z"⟩ : Cond) ∈ gT := List.mem_filter.mpr ⟨List.mem_of_getElem? (i := 585) (by decide +kernel), (by decide +kernel)⟩
theorem we585 {c1 : Cond} : (.static ⟨"RollingBalls$Level", "isWhole", "(I)Z"⟩ : Cond) ∈ c1 :: gT := List.mem_cons_of_mem _ wd585
theorem wd586 : (.code ⟨"RollingBalls$Level", "isWhole", "(I)Z"⟩ prog_4_method_3_code 1 (some .boolean) : Cond) ∈ gT := List.mem_filter.mpr ⟨List.mem_of_getElem? (i := 586) (by decide +kernel), (by decide +kernel)⟩
theorem we586 {c1 : Cond} : (.code ⟨"RollingBalls$Level", "isWhole", "(I)Z"⟩ prog_4_method_3_code 1 (some .boolean) : Cond) ∈ c1 :: gT := List.mem_cons_of_mem _ wd586
theorem wd587 : (.methodLink "RollingBalls$Level" 9 ⟨"RollingBalls$Level", "floor", "(I)I"⟩ : Cond) ∈ gT := List.mem_filter.mpr ⟨List.mem_of_getElem? (i := 587) (by decide +kernel), (by decide +kernel)⟩
theorem we587 {c1 : Cond} : (.methodLink "RollingBalls$Level" 9 ⟨"RollingBalls$Level", "floor", "(I)I"⟩ : Cond) ∈ c1 :: gT := List.mem_cons_of_mem _ wd587
theorem wd588 : (.constant "RollingBalls$Level" 13 1048576 : Cond) ∈ gT := List.mem_filter.mpr ⟨List.mem_of_getElem? (i := 588) (by decide +kernel), (by decide +kernel)⟩
theorem we588 {c1 : Cond} : (.constant "RollingBalls$Level" 13 1048576 : Cond) ∈ c1 :: gT := List.mem_cons_of_mem _ wd588
theorem wd589 : (.methodLink "RollingBalls" 97 ⟨"RollingBalls$Ball", "countTouched", "(II)I"⟩ : Cond) ∈ gT := List.mem_filter.mpr ⟨List.mem_of_getElem? (i := 589) (by decide +kernel), (by decide +kernel)⟩
theorem we589 {c1 : Cond} : (.methodLink "RollingBalls" 97 ⟨"RollingBalls$Ball", "countTouched", "(II)I"⟩ : Cond) ∈ c1 :: gT := List.mem_cons_of_mem _ wd589
theorem wd590 : (.instanceMethod ⟨"RollingBalls$Ball", "countTouched", "(II)I"⟩ : Cond) ∈ gT := List.mem_filter.mpr ⟨List.mem_of_getElem? (i := 590) (by decide +kernel), (by decide +kernel)⟩
theorem we590 {c1 : Cond} : (.instanceMethod ⟨"RollingBalls$Ball", "countTouched", "(II)I"⟩ : Cond) ∈ c1 :: gT := List.mem_cons_of_mem _ wd590
theorem wd591 : (.selects "RollingBalls$Ball" ⟨"RollingBalls$Ball", "countTouched", "(II)I"⟩ ⟨"RollingBalls$Ball", "countTouched", "(II)I"⟩ : Cond) ∈ gT := List.mem_filter.mpr ⟨List.mem_of_getElem? (i := 591) (by decide +kernel), (by decide +kernel)⟩
theorem we591 {c1 : Cond} : (.selects "RollingBalls$Ball" ⟨"RollingBalls$Ball", "countTouched", "(II)I"⟩ ⟨"RollingBalls$Ball", "countTouched", "(II)I"⟩ : Cond) ∈ c1 :: gT := List.mem_cons_of_mem _ wd591
theorem wd592 : (.code ⟨"RollingBalls$Ball", "countTouched", "(II)I"⟩ prog_2_method_3_code 3 (some .int) : Cond) ∈ gT := List.mem_filter.mpr ⟨List.mem_of_getElem? (i := 592) (by decide +kernel), (by decide +kernel)⟩
theorem we592 {c1 : Cond} : (.code ⟨"RollingBalls$Ball", "countTouched", "(II)I"⟩ prog_2_method_3_code 3 (some .int) : Cond) ∈ c1 :: gT := List.mem_cons_of_mem _ wd592
theorem wd594 : (.methodLink "RollingBallsLaw" 74 ⟨"RollingBallsLaw", "touched", "(LRollingBalls;III[J)I"⟩ : Cond) ∈ gT := List.mem_filter.mpr ⟨List.mem_of_getElem? (i := 594) (by decide +kernel), (by decide +kernel)⟩
theorem we594 {c1 : Cond} : (.methodLink "RollingBallsLaw" 74 ⟨"RollingBallsLaw", "touched", "(LRollingBalls;III[J)I"⟩ : Cond) ∈ c1 :: gT := List.mem_cons_of_mem _ wd594
theorem wd595 : (.static ⟨"RollingBallsLaw", "touched", "(LRollingBalls;III[J)I"⟩ : Cond) ∈ gT := List.mem_filter.mpr ⟨List.mem_of_getElem? (i := 595) (by decide +kernel), (by decide +kernel)⟩
theorem we595 {c1 : Cond} : (.static ⟨"RollingBallsLaw", "touched", "(LRollingBalls;III[J)I"⟩ : Cond) ∈ c1 :: gT := List.mem_cons_of_mem _ wd595
theorem wd596 : (.codeWith ⟨"RollingBallsLaw", "touched", "(LRollingBalls;III[J)I"⟩ method_6_code 6 (some .int) [(0, 12, 15, 13)] : Cond) ∈ gT := List.mem_filter.mpr ⟨List.mem_of_getElem? (i := 596) (by decide +kernel), (by decide +kernel)⟩
theorem we596 {c1 : Cond} : (.codeWith ⟨"RollingBallsLaw", "touched", "(LRollingBalls;III[J)I"⟩ method_6_code 6 (some .int) [(0, 12, 15, 13)] : Cond) ∈ c1 :: gT := List.mem_cons_of_mem _ wd596
theorem wd597 : (.methodLink "RollingBallsLaw" 21 ⟨"RollingBalls", "touched", "(III)I"⟩ : Cond) ∈ gT := List.mem_filter.mpr ⟨List.mem_of_getElem? (i := 597) (by decide +kernel), (by decide +kernel)⟩
theorem we597 {c1 : Cond} : (.methodLink "RollingBallsLaw" 21 ⟨"RollingBalls", "touched", "(III)I"⟩ : Cond) ∈ c1 :: gT := List.mem_cons_of_mem _ wd597
theorem wd598 : (.instanceMethod ⟨"RollingBalls", "touched", "(III)I"⟩ : Cond) ∈ gT := List.mem_filter.mpr ⟨List.mem_of_getElem? (i := 598) (by decide +kernel), (by decide +kernel)⟩
theorem we598 {c1 : Cond} : (.instanceMethod ⟨"RollingBalls", "touched", "(III)I"⟩ : Cond) ∈ c1 :: gT := List.mem_cons_of_mem _ wd598
theorem wd599 : (.selects "RollingBalls" ⟨"RollingBalls", "touched", "(III)I"⟩ ⟨"RollingBalls", "touched", "(III)I"⟩ : Cond) ∈ gT := List.mem_filter.mpr ⟨List.mem_of_getElem? (i := 599) (by decide +kernel), (by decide +kernel)⟩
theorem we599 {c1 : Cond} : (.selects "RollingBalls" ⟨"RollingBalls", "touched", "(III)I"⟩ ⟨"RollingBalls", "touched", "(III)I"⟩ : Cond) ∈ c1 :: gT := List.mem_cons_of_mem _ wd599
theorem wd600 : (.code ⟨"RollingBalls", "touched", "(III)I"⟩ prog_1_method_5_code 4 (some .int) : Cond) ∈ gT := List.mem_filter.mpr ⟨List.mem_of_getElem? (i := 600) (by decide +kernel), (by decide +kernel)⟩
theorem we600 {c1 : Cond} : (.code ⟨"RollingBalls", "touched", "(III)I"⟩ prog_1_method_5_code 4 (some .int) : Cond) ∈ c1 :: gT := List.mem_cons_of_mem _ wd600
theorem wd601 : (.methodLink "RollingBalls" 110 ⟨"RollingBalls", "needIndex", "(I)V"⟩ : Cond) ∈ gT := List.mem_filter.mpr ⟨List.mem_of_getElem? (i := 601) (by decide +kernel), (by decide +kernel)⟩
theorem we601 {c1 : Cond} : (.methodLink "RollingBalls" 110 ⟨"RollingBalls", "needIndex", "(I)V"⟩ : Cond) ∈ c1 :: gT := List.mem_cons_of_mem _ wd601
theorem wd602 : (.static ⟨"RollingBalls", "needIndex", "(I)V"⟩ : Cond) ∈ gT := List.mem_filter.mpr ⟨List.mem_of_getElem? (i := 602) (by decide +kernel), (by decide +kernel)⟩
theorem we602 {c1 : Cond} : (.static ⟨"RollingBalls", "needIndex", "(I)V"⟩ : Cond) ∈ c1 :: gT := List.mem_cons_of_mem _ wd602
theorem wd603 : (.code ⟨"RollingBalls", "needIndex", "(I)V"⟩ prog_1_method_20_code 1 none : Cond) ∈ gT := List.mem_filter.mpr ⟨List.mem_of_getElem? (i := 603) (by decide +kernel), (by decide +kernel)⟩
theorem we603 {c1 : Cond} : (.code ⟨"RollingBalls", "needIndex", "(I)V"⟩ prog_1_method_20_code 1 none : Cond) ∈ c1 :: gT := List.mem_cons_of_mem _ wd603
theorem wd605 : (.methodLink "RollingBalls" 114 ⟨"RollingBalls$Ball", "listTouched", "(II)V"⟩ : Cond) ∈ gT := List.mem_filter.mpr ⟨List.mem_of_getElem? (i := 605) (by decide +kernel), (by decide +kernel)⟩
theorem we605 {c1 : Cond} : (.methodLink "RollingBalls" 114 ⟨"RollingBalls$Ball", "listTouched", "(II)V"⟩ : Cond) ∈ c1 :: gT := List.mem_cons_of_mem _ wd605
theorem wd606 : (.instanceMethod ⟨"RollingBalls$Ball", "listTouched", "(II)V"⟩ : Cond) ∈ gT := List.mem_filter.mpr ⟨List.mem_of_getElem? (i := 606) (by decide +kernel), (by decide +kernel)⟩
theorem we606 {c1 : Cond} : (.instanceMethod ⟨"RollingBalls$Ball", "listTouched", "(II)V"⟩ : Cond) ∈ c1 :: gT := List.mem_cons_of_mem _ wd606
theorem wd607 : (.selects "RollingBalls$Ball" ⟨"RollingBalls$Ball", "listTouched", "(II)V"⟩ ⟨"RollingBalls$Ball", "listTouched", "(II)V"⟩ : Cond) ∈ gT := List.mem_filter.mpr ⟨List.mem_of_getElem? (i := 607) (by decide +kernel), (by decide +kernel)⟩
theorem we607 {c1 : Cond} : (.selects "RollingBalls$Ball" ⟨"RollingBalls$Ball", "listTouched", "(II)V"⟩ ⟨"RollingBalls$Ball", "listTouched", "(II)V"⟩ : Cond) ∈ c1 :: gT := List.mem_cons_of_mem _ wd607
theorem wd608 : (.code ⟨"RollingBalls$Ball", "listTouched", "(II)V"⟩ prog_2_method_4_code 3 none : Cond) ∈ gT := List.mem_filter.mpr ⟨List.mem_of_getElem? (i := 608) (by decide +kernel), (by decide +kernel)⟩
theorem we608 {c1 : Cond} : (.code ⟨"RollingBalls$Ball", "listTouched", "(II)V"⟩ prog_2_method_4_code 3 none : Cond) ∈ c1 :: gT := List.mem_cons_of_mem _ wd608
theorem wd609 : (.methodLink "RollingBalls$Ball" 89 ⟨"RollingBalls$Ball", "restAt", "(II)I"⟩ : Cond) ∈ gT := List.mem_filter.mpr ⟨List.mem_of_getElem? (i := 609) (by decide +kernel), (by decide +kernel)⟩
theorem we609 {c1 : Cond} : (.methodLink "RollingBalls$Ball" 89 ⟨"RollingBalls$Ball", "restAt", "(II)I"⟩ : Cond) ∈ c1 :: gT := List.mem_cons_of_mem _ wd609
theorem wd610 : (.methodLink "RollingBalls" 123 ⟨"RollingBalls", "numberOf", "(I)I"⟩ : Cond) ∈ gT := List.mem_filter.mpr ⟨List.mem_of_getElem? (i := 610) (by decide +kernel), (by decide +kernel)⟩
theorem we610 {c1 : Cond} : (.methodLink "RollingBalls" 123 ⟨"RollingBalls", "numberOf", "(I)I"⟩ : Cond) ∈ c1 :: gT := List.mem_cons_of_mem _ wd610
theorem wd612 : (.instanceMethod ⟨"RollingBalls", "numberOf", "(I)I"⟩ : Cond) ∈ gT := List.mem_filter.mpr ⟨List.mem_of_getElem? (i := 612) (by decide +kernel), (by decide +kernel)⟩
theorem we612 {c1 : Cond} : (.instanceMethod ⟨"RollingBalls", "numberOf", "(I)I"⟩ : Cond) ∈ c1 :: gT := List.mem_cons_of_mem _ wd612
theorem wd613 : (.code ⟨"RollingBalls", "numberOf", "(I)I"⟩ prog_1_method_17_code 2 (some .int) : Cond) ∈ gT := List.mem_filter.mpr ⟨List.mem_of_getElem? (i := 613) (by decide +kernel), (by decide +kernel)⟩
theorem we613 {c1 : Cond} : (.code ⟨"RollingBalls", "numberOf", "(I)I"⟩ prog_1_method_17_code 2 (some .int) : Cond) ∈ c1 :: gT := List.mem_cons_of_mem _ wd613
theorem wd614 : (.methodLink "RollingBallsLaw" 77 ⟨"RollingBallsLaw", "higher", "(LRollingBalls;IIII[J)I"⟩ : Cond) ∈ gT := List.mem_filter.mpr ⟨List.mem_of_getElem? (i := 614) (by decide +kernel), (by decide +kernel)⟩
theorem we614 {c1 : Cond} : (.methodLink "RollingBallsLaw" 77 ⟨"RollingBallsLaw", "higher", "(LRollingBalls;IIII[J)I"⟩ : Cond) ∈ c1 :: gT := List.mem_cons_of_mem _ wd614
theorem wd615 : (.static ⟨"RollingBallsLaw", "higher", "(LRollingBalls;IIII[J)I"⟩ : Cond) ∈ gT := List.mem_filter.mpr ⟨List.mem_of_getElem? (i := 615) (by decide +kernel), (by decide +kernel)⟩
theorem we615 {c1 : Cond} : (.static ⟨"RollingBallsLaw", "higher", "(LRollingBalls;IIII[J)I"⟩ : Cond) ∈ c1 :: gT := List.mem_cons_of_mem _ wd615
theorem wd616 : (.codeWith ⟨"RollingBallsLaw", "higher", "(LRollingBalls;IIII[J)I"⟩ method_7_code 7 (some .int) [(0, 14, 17, 13)] : Cond) ∈ gT := List.mem_filter.mpr ⟨List.mem_of_getElem? (i := 616) (by decide +kernel), (by decide +kernel)⟩
theorem we616 {c1 : Cond} : (.codeWith ⟨"RollingBallsLaw", "higher", "(LRollingBalls;IIII[J)I"⟩ method_7_code 7 (some .int) [(0, 14, 17, 13)] : Cond) ∈ c1 :: gT := List.mem_cons_of_mem _ wd616
theorem wd617 : (.methodLink "RollingBallsLaw" 24 ⟨"RollingBalls", "higher", "(IIII)I"⟩ : Cond) ∈ gT := List.mem_filter.mpr ⟨List.mem_of_getElem? (i := 617) (by decide +kernel), (by decide +kernel)⟩
theorem we617 {c1 : Cond} : (.methodLink "RollingBallsLaw" 24 ⟨"RollingBalls", "higher", "(IIII)I"⟩ : Cond) ∈ c1 :: gT := List.mem_cons_of_mem _ wd617
theorem wd618 : (.instanceMethod ⟨"RollingBalls", "higher", "(IIII)I"⟩ : Cond) ∈ gT := List.mem_filter.mpr ⟨List.mem_of_getElem? (i := 618) (by decide +kernel), (by decide +kernel)⟩
theorem we618 {c1 : Cond} : (.instanceMethod ⟨"RollingBalls", "higher", "(IIII)I"⟩ : Cond) ∈ c1 :: gT := List.mem_cons_of_mem _ wd618
theorem wd619 : (.selects "RollingBalls" ⟨"RollingBalls", "higher", "(IIII)I"⟩ ⟨"RollingBalls", "higher", "(IIII)I"⟩ : Cond) ∈ gT := List.mem_filter.mpr ⟨List.mem_of_getElem? (i := 619) (by decide +kernel), (by decide +kernel)⟩
theorem we619 {c1 : Cond} : (.selects "RollingBalls" ⟨"RollingBalls", "higher", "(IIII)I"⟩ ⟨"RollingBalls", "higher", "(IIII)I"⟩ : Cond) ∈ c1 :: gT := List.mem_cons_of_mem _ wd619
theorem wd620 : (.code ⟨"RollingBalls", "higher", "(IIII)I"⟩ prog_1_method_6_code 5 (some .int) : Cond) ∈ gT := List.mem_filter.mpr ⟨List.mem_of_getElem? (i := 620) (by decide +kernel), (by decide +kernel)⟩
theorem we620 {c1 : Cond} : (.code ⟨"RollingBalls", "higher", "(IIII)I"⟩ prog_1_method_6_code 5 (some .int) : Cond) ∈ c1 :: gT := List.mem_cons_of_mem _ wd620
theorem wd621 : (.methodLink "RollingBalls" 126 ⟨"java/lang/Integer", "compare", "(II)I"⟩ : Cond) ∈ gT := List.mem_filter.mpr ⟨List.mem_of_getElem? (i := 621) (by decide +kernel), (by decide +kernel)⟩
theorem we621 {c1 : Cond} : (.methodLink "RollingBalls" 126 ⟨"java/lang/Integer", "compare", "(II)I"⟩ : Cond) ∈ c1 :: gT := List.mem_cons_of_mem _ wd621
theorem wd622 : (.static ⟨"java/lang/Integer", "compare", "(II)I"⟩ : Cond) ∈ gT := List.mem_filter.mpr ⟨List.mem_of_getElem? (i := 622) (by decide +kernel), (by decide +kernel)⟩
theorem we622 {c1 : Cond} : (.static ⟨"java/lang/Integer", "compare", "(II)I"⟩ : Cond) ∈ c1 :: gT := List.mem_cons_of_mem _ wd622
theorem wd623 : (.code ⟨"java/lang/Integer", "compare", "(II)I"⟩ prog_12_method_40_code 2 (some .int) : Cond) ∈ gT := List.mem_filter.mpr ⟨List.mem_of_getElem? (i := 623) (by decide +kernel), (by decide +kernel)⟩
theorem we623 {c1 : Cond} : (.code ⟨"java/lang/Integer", "compare", "(II)I"⟩ prog_12_method_40_code 2 (some .int) : Cond) ∈ c1 :: gT := List.mem_cons_of_mem _ wd623
theorem wd624 : (.methodLink "RollingBallsLaw" 85 ⟨"RollingBallsLaw", "hits", "(LRollingBalls;II[J)I"⟩ : Cond) ∈ gT := List.mem_filter.mpr ⟨List.mem_of_getElem? (i := 624) (by decide +kernel), (by decide +kernel)⟩
theorem we624 {c1 : Cond} : (.methodLink "RollingBallsLaw" 85 ⟨"RollingBallsLaw", "hits", "(LRollingBalls;II[J)I"⟩ : Cond) ∈ c1 :: gT := List.mem_cons_of_mem _ wd624
theorem wd625 : (.static ⟨"RollingBallsLaw", "hits", "(LRollingBalls;II[J)I"⟩ : Cond) ∈ gT := List.mem_filter.mpr ⟨List.mem_of_getElem? (i := 625) (by decide +kernel), (by decide +kernel)⟩
theorem we625 {c1 : Cond} : (.static ⟨"RollingBallsLaw", "hits", "(LRollingBalls;II[J)I"⟩ : Cond) ∈ c1 :: gT := List.mem_cons_of_mem _ wd625
theorem wd626 : (.codeWith ⟨"RollingBallsLaw", "hits", "(LRollingBalls;II[J)I"⟩ method_8_code 5 (some .int) [(0, 10, 13, 13)] : Cond) ∈ gT := List.mem_filter.mpr ⟨List.mem_of_getElem? (i := 626) (by decide +kernel), (by decide +kernel)⟩
theorem we626 {c1 : Cond} : (.codeWith ⟨"RollingBallsLaw", "hits", "(LRollingBalls;II[J)I"⟩ method_8_code 5 (some .int) [(0, 10, 13, 13)] : Cond) ∈ c1 :: gT := List.mem_cons_of_mem _ wd626
theorem wd627 : (.methodLink "RollingBallsLaw" 28 ⟨"RollingBalls", "hits", "(II)I"⟩ : Cond) ∈ gT := List.mem_filter.mpr ⟨List.mem_of_getElem? (i := 627) (by decide +kernel), (by decide +kernel)⟩
theorem we627 {c1 : Cond} : (.methodLink "RollingBallsLaw" 28 ⟨"RollingBalls", "hits", "(II)I"⟩ : Cond) ∈ c1 :: gT := List.mem_cons_of_mem _ wd627
theorem wd628 : (.instanceMethod ⟨"RollingBalls", "hits", "(II)I"⟩ : Cond) ∈ gT := List.mem_filter.mpr ⟨List.mem_of_getElem? (i := 628) (by decide +kernel), (by decide +kernel)⟩
theorem we628 {c1 : Cond} : (.instanceMethod ⟨"RollingBalls", "hits", "(II)I"⟩ : Cond) ∈ c1 :: gT := List.mem_cons_of_mem _ wd628
theorem wd629 : (.selects "RollingBalls" ⟨"RollingBalls", "hits", "(II)I"⟩ ⟨"RollingBalls", "hits", "(II)I"⟩ : Cond) ∈ gT := List.mem_filter.mpr ⟨List.mem_of_getElem? (i := 629) (by decide +kernel), (by decide +kernel)⟩
theorem we629 {c1 : Cond} : (.selects "RollingBalls" ⟨"RollingBalls", "hits", "(II)I"⟩ ⟨"RollingBalls", "hits", "(II)I"⟩ : Cond) ∈ c1 :: gT := List.mem_cons_of_mem _ wd629
theorem wd630 : (.code ⟨"RollingBalls", "hits", "(II)I"⟩ prog_1_method_8_code 3 (some .int) : Cond) ∈ gT := List.mem_filter.mpr ⟨List.mem_of_getElem? (i := 630) (by decide +kernel), (by decide +kernel)⟩
theorem we630 {c1 : Cond} : (.code ⟨"RollingBalls", "hits", "(II)I"⟩ prog_1_method_8_code 3 (some .int) : Cond) ∈ c1 :: gT := List.mem_cons_of_mem _ wd630
theorem wd631 : (.methodLink "RollingBallsLaw" 89 ⟨"RollingBallsLaw", "safe", "(LRollingBalls;I[J)I"⟩ : Cond) ∈ gT := List.mem_filter.mpr ⟨List.mem_of_getElem? (i := 631) (by decide +kernel), (by decide +kernel)⟩
theorem we631 {c1 : Cond} : (.methodLink "RollingBallsLaw" 89 ⟨"RollingBallsLaw", "safe", "(LRollingBalls;I[J)I"⟩ : Cond) ∈ c1 :: gT := List.mem_cons_of_mem _ wd631
theorem wd632 : (.static ⟨"RollingBallsLaw", "safe", "(LRollingBalls;I[J)I"⟩ : Cond) ∈ gT := List.mem_filter.mpr ⟨List.mem_of_getElem? (i := 632) (by decide +kernel), (by decide +kernel)⟩
theorem we632 {c1 : Cond} : (.static ⟨"RollingBallsLaw", "safe", "(LRollingBalls;I[J)I"⟩ : Cond) ∈ c1 :: gT := List.mem_cons_of_mem _ wd632
theorem wd633 : (.codeWith ⟨"RollingBallsLaw", "safe", "(LRollingBalls;I[J)I"⟩ method_9_code 4 (some .int) [(0, 9, 12, 13)] : Cond) ∈ gT := List.mem_filter.mpr ⟨List.mem_of_getElem? (i := 633) (by decide +kernel), (by decide +kernel)⟩
theorem we633 {c1 : Cond} : (.codeWith ⟨"RollingBallsLaw", "safe", "(LRollingBalls;I[J)I"⟩ method_9_code 4 (some .int) [(0, 9, 12, 13)] : Cond) ∈ c1 :: gT := List.mem_cons_of_mem _ wd633
theorem wd634 : (.methodLink "RollingBallsLaw" 32 ⟨"RollingBalls", "safe", "(I)I"⟩ : Cond) ∈ gT := List.mem_filter.mpr ⟨List.mem_of_getElem? (i := 634) (by decide +kernel), (by decide +kernel)⟩
theorem we634 {c1 : Cond} : (.methodLink "RollingBallsLaw" 32 ⟨"RollingBalls", "safe", "(I)I"⟩ : Cond) ∈ c1 :: gT := List.mem_cons_of_mem _ wd634
theorem wd635 : (.instanceMethod ⟨"RollingBalls", "safe", "(I)I"⟩ : Cond) ∈ gT := List.mem_filter.mpr ⟨List.mem_of_getElem? (i := 635) (by decide +kernel), (by decide +kernel)⟩
theorem we635 {c1 : Cond} : (.instanceMethod ⟨"RollingBalls", "safe", "(I)I"⟩ : Cond) ∈ c1 :: gT := List.mem_cons_of_mem _ wd635
theorem wd636 : (.selects "RollingBalls" ⟨"RollingBalls", "safe", "(I)I"⟩ ⟨"RollingBalls", "safe", "(I)I"⟩ : Cond) ∈ gT := List.mem_filter.mpr ⟨List.mem_of_getElem? (i := 636) (by decide +kernel), (by decide +kernel)⟩
theorem we636 {c1 : Cond} : (.selects "RollingBalls" ⟨"RollingBalls", "safe", "(I)I"⟩ ⟨"RollingBalls", "safe", "(I)I"⟩ : Cond) ∈ c1 :: gT := List.mem_cons_of_mem _ wd636
theorem wd637 : (.code ⟨"RollingBalls", "safe", "(I)I"⟩ prog_1_method_9_code 4 (some .int) : Cond) ∈ gT := List.mem_filter.mpr ⟨List.mem_of_getElem? (i := 637) (by decide +kernel), (by decide +kernel)⟩
theorem we637 {c1 : Cond} : (.code ⟨"RollingBalls", "safe", "(I)I"⟩ prog_1_method_9_code 4 (some .int) : Cond) ∈ c1 :: gT := List.mem_cons_of_mem _ wd637
theorem wd638 : (.methodLink "RollingBallsLaw" 93 ⟨"RollingBallsLaw", "cover", "(LRollingBalls;II[J)I"⟩ : Cond) ∈ gT := List.mem_filter.mpr ⟨List.mem_of_getElem? (i := 638) (by decide +kernel), (by decide +kernel)⟩
theorem we638 {c1 : Cond} : (.methodLink "RollingBallsLaw" 93 ⟨"RollingBallsLaw", "cover", "(LRollingBalls;II[J)I"⟩ : Cond) ∈ c1 :: gT := List.mem_cons_of_mem _ wd638
theorem wd639 : (.static ⟨"RollingBallsLaw", "cover", "(LRollingBalls;II[J)I"⟩ : Cond) ∈ gT := List.mem_filter.mpr ⟨List.mem_of_getElem? (i := 639) (by decide +kernel), (by decide +kernel)⟩
theorem we639 {c1 : Cond} : (.static ⟨"RollingBallsLaw", "cover", "(LRollingBalls;II[J)I"⟩ : Cond) ∈ c1 :: gT := List.mem_cons_of_mem _ wd639
theorem wd640 : (.codeWith ⟨"RollingBallsLaw", "cover", "(LRollingBalls;II[J)I"⟩ method_10_code 5 (some .int) [(0, 10, 13, 13)] : Cond) ∈ gT := List.mem_filter.mpr ⟨List.mem_of_getElem? (i := 640) (by decide +kernel), (by decide +kernel)⟩
theorem we640 {c1 : Cond} : (.codeWith ⟨"RollingBallsLaw", "cover", "(LRollingBalls;II[J)I"⟩ method_10_code 5 (some .int) [(0, 10, 13, 13)] : Cond) ∈ c1 :: gT := List.mem_cons_of_mem _ wd640
theorem wd641 : (.methodLink "RollingBallsLaw" 36 ⟨"RollingBalls", "cover", "(II)I"⟩ : Cond) ∈ gT := List.mem_filter.mpr ⟨List.mem_of_getElem? (i := 641) (by decide +kernel), (by decide +kernel)⟩
theorem we641 {c1 : Cond} : (.methodLink "RollingBallsLaw" 36 ⟨"RollingBalls", "cover", "(II)I"⟩ : Cond) ∈ c1 :: gT := List.mem_cons_of_mem _ wd641
theorem wd642 : (.instanceMethod ⟨"RollingBalls", "cover", "(II)I"⟩ : Cond) ∈ gT := List.mem_filter.mpr ⟨List.mem_of_getElem? (i := 642) (by decide +kernel), (by decide +kernel)⟩
theorem we642 {c1 : Cond} : (.instanceMethod ⟨"RollingBalls", "cover", "(II)I"⟩ : Cond) ∈ c1 :: gT := List.mem_cons_of_mem _ wd642
theorem wd643 : (.selects "RollingBalls" ⟨"RollingBalls", "cover", "(II)I"⟩ ⟨"RollingBalls", "cover", "(II)I"⟩ : Cond) ∈ gT := List.mem_filter.mpr ⟨List.mem_of_getElem? (i := 643) (by decide +kernel), (by decide +kernel)⟩
theorem we643 {c1 : Cond} : (.selects "RollingBalls" ⟨"RollingBalls", "cover", "(II)I"⟩ ⟨"RollingBalls", "cover", "(II)I"⟩ : Cond) ∈ c1 :: gT := List.mem_cons_of_mem _ wd643
theorem wd644 : (.code ⟨"RollingBalls", "cover", "(II)I"⟩ prog_1_method_10_code 3 (some .int) : Cond) ∈ gT := List.mem_filter.mpr ⟨List.mem_of_getElem? (i := 644) (by decide +kernel), (by decide +kernel)⟩
theorem we644 {c1 : Cond} : (.code ⟨"RollingBalls", "cover", "(II)I"⟩ prog_1_method_10_code 3 (some .int) : Cond) ∈ c1 :: gT := List.mem_cons_of_mem _ wd644
theorem wd645 : (.methodLink "RollingBalls" 141 ⟨"RollingBalls$Ball", "coverOf", "(I)I"⟩ : Cond) ∈ gT := List.mem_filter.mpr ⟨List.mem_of_getElem? (i := 645) (by decide +kernel), (by decide +kernel)⟩
theorem we645 {c1 : Cond} : (.methodLink "RollingBalls" 141 ⟨"RollingBalls$Ball", "coverOf", "(I)I"⟩ : Cond) ∈ c1 :: gT := List.mem_cons_of_mem _ wd645
theorem wd646 : (.instanceMethod ⟨"RollingBalls$Ball", "coverOf", "(I)I"⟩ : Cond) ∈ gT := List.mem_filter.mpr ⟨List.mem_of_getElem? (i := 646) (by decide +kernel), (by decide +kernel)⟩
theorem we646 {c1 : Cond} : (.instanceMethod ⟨"RollingBalls$Ball", "coverOf", "(I)I"⟩ : Cond) ∈ c1 :: gT := List.mem_cons_of_mem _ wd646
theorem wd647 : (.selects "RollingBalls$Ball" ⟨"RollingBalls$Ball", "coverOf", "(I)I"⟩ ⟨"RollingBalls$Ball", "coverOf", "(I)I"⟩ : Cond) ∈ gT := List.mem_filter.mpr ⟨List.mem_of_getElem? (i := 647) (by decide +kernel), (by decide +kernel)⟩
theorem we647 {c1 : Cond} : (.selects "RollingBalls$Ball" ⟨"RollingBalls$Ball", "coverOf", "(I)I"⟩ ⟨"RollingBalls$Ball", "coverOf", "(I)I"⟩ : Cond) ∈ c1 :: gT := List.mem_cons_of_mem _ wd647
theorem wd648 : (.code ⟨"RollingBalls$Ball", "coverOf", "(I)I"⟩ prog_2_method_7_code 5 (some .int) : Cond) ∈ gT := List.mem_filter.mpr ⟨List.mem_of_getElem? (i := 648) (by decide +kernel), (by decide +kernel)⟩
theorem we648 {c1 : Cond} : (.code ⟨"RollingBalls$Ball", "coverOf", "(I)I"⟩ prog_2_method_7_code 5 (some .int) : Cond) ∈ c1 :: gT := List.mem_cons_of_mem _ wd648
theorem wd649 : (.methodLink "RollingBalls$Ball" 105 ⟨"java/lang/Math", "min", "(II)I"⟩ : Cond) ∈ gT := List.mem_filter.mpr ⟨List.mem_of_getElem? (i := 649) (by decide +kernel), (by decide +kernel)⟩
theorem we649 {c1 : Cond} : (.methodLink "RollingBalls$Ball" 105 ⟨"java/lang/Math", "min", "(II)I"⟩ : Cond) ∈ c1 :: gT := List.mem_cons_of_mem _ wd649
theorem wd650 : (.methodLink "RollingBallsLaw" 96 ⟨"RollingBallsLaw", "may", "(LRollingBalls;III[J)I"⟩ : Cond) ∈ gT := List.mem_filter.mpr ⟨List.mem_of_getElem? (i := 650) (by decide +kernel), (by decide +kernel)⟩
theorem we650 {c1 : Cond} : (.methodLink "RollingBallsLaw" 96 ⟨"RollingBallsLaw", "may", "(LRollingBalls;III[J)I"⟩ : Cond) ∈ c1 :: gT := List.mem_cons_of_mem _ wd650
theorem wd651 : (.static ⟨"RollingBallsLaw", "may", "(LRollingBalls;III[J)I"⟩ : Cond) ∈ gT := List.mem_filter.mpr ⟨List.mem_of_getElem? (i := 651) (by decide +kernel), (by decide +kernel)⟩
theorem we651 {c1 : Cond} : (.static ⟨"RollingBallsLaw", "may", "(LRollingBalls;III[J)I"⟩ : Cond) ∈ c1 :: gT := List.mem_cons_of_mem _ wd651
theorem wd652 : (.codeWith ⟨"RollingBallsLaw", "may", "(LRollingBalls;III[J)I"⟩ method_11_code 6 (some .int) [(0, 12, 15, 13), (0, 12, 19, 42)] : Cond) ∈ gT := List.mem_filter.mpr ⟨List.mem_of_getElem? (i := 652) (by decide +kernel), (by decide +kernel)⟩
theorem we652 {c1 : Cond} : (.codeWith ⟨"RollingBallsLaw", "may", "(LRollingBalls;III[J)I"⟩ method_11_code 6 (some .int) [(0, 12, 15, 13), (0, 12, 19, 42)] : Cond) ∈ c1 :: gT := List.mem_cons_of_mem _ wd652
theorem wd653 : (.classLink "RollingBallsLaw" 42 "java/lang/IllegalStateException" : Cond) ∈ gT := List.mem_filter.mpr ⟨List.mem_of_getElem? (i := 653) (by decide +kernel), (by decide +kernel)⟩
theorem we653 {c1 : Cond} : (.classLink "RollingBallsLaw" 42 "java/lang/IllegalStateException" : Cond) ∈ c1 :: gT := List.mem_cons_of_mem _ wd653
theorem wd654 : (.methodLink "RollingBallsLaw" 39 ⟨"RollingBalls", "may", "(III)I"⟩ : Cond) ∈ gT := List.mem_filter.mpr ⟨List.mem_of_getElem? (i := 654) (by decide +kernel), (by decide +kernel)⟩
theorem we654 {c1 : Cond} : (.methodLink "RollingBallsLaw" 39 ⟨"RollingBalls", "may", "(III)I"⟩ : Cond) ∈ c1 :: gT := List.mem_cons_of_mem _ wd654
theorem wd655 : (.instanceMethod ⟨"RollingBalls", "may", "(III)I"⟩ : Cond) ∈ gT := List.mem_filter.mpr ⟨List.mem_of_getElem? (i := 655) (by decide +kernel), (by decide +kernel)⟩
theorem we655 {c1 : Cond} : (.instanceMethod ⟨"RollingBalls", "may", "(III)I"⟩ : Cond) ∈ c1 :: gT := List.mem_cons_of_mem _ wd655
theorem wd656 : (.selects "RollingBalls" ⟨"RollingBalls", "may", "(III)I"⟩ ⟨"RollingBalls", "may", "(III)I"⟩ : Cond) ∈ gT := List.mem_filter.mpr ⟨List.mem_of_getElem? (i := 656) (by decide +kernel), (by decide +kernel)⟩
theorem we656 {c1 : Cond} : (.selects "RollingBalls" ⟨"RollingBalls", "may", "(III)I"⟩ ⟨"RollingBalls", "may", "(III)I"⟩ : Cond) ∈ c1 :: gT := List.mem_cons_of_mem _ wd656
theorem wd657 : (.code ⟨"RollingBalls", "may", "(III)I"⟩ prog_1_method_11_code 5 (some .int) : Cond) ∈ gT := List.mem_filter.mpr ⟨List.mem_of_getElem? (i := 657) (by decide +kernel), (by decide +kernel)⟩
theorem we657 {c1 : Cond} : (.code ⟨"RollingBalls", "may", "(III)I"⟩ prog_1_method_11_code 5 (some .int) : Cond) ∈ c1 :: gT := List.mem_cons_of_mem _ wd657
theorem wd658 : (.methodLink "RollingBalls" 144 ⟨"RollingBalls$Plan", "isFull", "()Z"⟩ : Cond) ∈ gT := List.mem_filter.mpr ⟨List.mem_of_getElem? (i := 658) (by decide +kernel), (by decide +kernel)⟩
theorem we658 {c1 : Cond} : (.methodLink "RollingBalls" 144 ⟨"RollingBalls$Plan", "isFull", "()Z"⟩ : Cond) ∈ c1 :: gT := List.mem_cons_of_mem _ wd658
theorem wd659 : (.instanceMethod ⟨"RollingBalls$Plan", "isFull", "()Z"⟩ : Cond) ∈ gT := List.mem_filter.mpr ⟨List.mem_of_getElem? (i := 659) (by decide +kernel), (by decide +kernel)⟩
theorem we659 {c1 : Cond} : (.instanceMethod ⟨"RollingBalls$Plan", "isFull", "()Z"⟩ : Cond) ∈ c1 :: gT := List.mem_cons_of_mem _ wd659
theorem wd660 : (.selects "RollingBalls$Plan" ⟨"RollingBalls$Plan", "isFull", "()Z"⟩ ⟨"RollingBalls$Plan", "isFull", "()Z"⟩ : Cond) ∈ gT := List.mem_filter.mpr ⟨List.mem_of_getElem? (i := 660) (by decide +kernel), (by decide +kernel)⟩
theorem we660 {c1 : Cond} : (.selects "RollingBalls$Plan" ⟨"RollingBalls$Plan", "isFull", "()Z"⟩ ⟨"RollingBalls$Plan", "isFull", "()Z"⟩ : Cond) ∈ c1 :: gT := List.mem_cons_of_mem _ wd660
theorem wd661 : (.code ⟨"RollingBalls$Plan", "isFull", "()Z"⟩ prog_5_method_3_code 1 (some .boolean) : Cond) ∈ gT := List.mem_filter.mpr ⟨List.mem_of_getElem? (i := 661) (by decide +kernel), (by decide +kernel)⟩
theorem we661 {c1 : Cond} : (.code ⟨"RollingBalls$Plan", "isFull", "()Z"⟩ prog_5_method_3_code 1 (some .boolean) : Cond) ∈ c1 :: gT := List.mem_cons_of_mem _ wd661
theorem wd662 : (.classLink "RollingBalls" 148 "java/lang/IllegalStateException" : Cond) ∈ gT := List.mem_filter.mpr ⟨List.mem_of_getElem? (i := 662) (by decide +kernel), (by decide +kernel)⟩
theorem we662 {c1 : Cond} : (.classLink "RollingBalls" 148 "java/lang/IllegalStateException" : Cond) ∈ c1 :: gT := List.mem_cons_of_mem _ wd662
theorem wd663 : (.instantiable "java/lang/IllegalStateException" 6 : Cond) ∈ gT := List.mem_filter.mpr ⟨List.mem_of_getElem? (i := 663) (by decide +kernel), (by decide +kernel)⟩
theorem we663 {c1 : Cond} : (.instantiable "java/lang/IllegalStateException" 6 : Cond) ∈ c1 :: gT := List.mem_cons_of_mem _ wd663
theorem wd665 : (.selects "java/lang/IllegalStateException" ⟨"java/lang/Throwable", "fillInStackTrace", "(I)Ljava/lang/Throwable;"⟩ ⟨"java/lang/Throwable", "fillInStackTrace", "(I)Ljava/lang/Throwable;"⟩ : Cond) ∈ gT := List.mem_filter.mpr ⟨List.mem_of_getElem? (i := 665) (by decide +kernel), (by decide +kernel)⟩
theorem we665 {c1 : Cond} : (.selects "java/lang/IllegalStateException" ⟨"java/lang/Throwable", "fillInStackTrace", "(I)Ljava/lang/Throwable;"⟩ ⟨"java/lang/Throwable", "fillInStackTrace", "(I)Ljava/lang/Throwable;"⟩ : Cond) ∈ c1 :: gT := List.mem_cons_of_mem _ wd665
theorem wd666 : (.lays "java/lang/IllegalStateException" "java/lang/Throwable" "cause" "Ljava/lang/Throwable;" : Cond) ∈ gT := List.mem_filter.mpr ⟨List.mem_of_getElem? (i := 666) (by decide +kernel), (by decide +kernel)⟩
theorem we666 {c1 : Cond} : (.lays "java/lang/IllegalStateException" "java/lang/Throwable" "cause" "Ljava/lang/Throwable;" : Cond) ∈ c1 :: gT := List.mem_cons_of_mem _ wd666
theorem wd667 : (.lays "java/lang/IllegalStateException" "java/lang/Throwable" "stackTrace" "[Ljava/lang/StackTraceElement;" : Cond) ∈ gT := List.mem_filter.mpr ⟨List.mem_of_getElem? (i := 667) (by decide +kernel), (by decide +kernel)⟩
theorem we667 {c1 : Cond} : (.lays "java/lang/IllegalStateException" "java/lang/Throwable" "stackTrace" "[Ljava/lang/StackTraceElement;" : Cond) ∈ c1 :: gT := List.mem_cons_of_mem _ wd667
theorem wd668 : (.lays "java/lang/IllegalStateException" "java/lang/Throwable" "suppressedExceptions" "Ljava/util/List;" : Cond) ∈ gT := List.mem_filter.mpr ⟨List.mem_of_getElem? (i := 668) (by decide +kernel), (by decide +kernel)⟩
theorem we668 {c1 : Cond} : (.lays "java/lang/IllegalStateException" "java/lang/Throwable" "suppressedExceptions" "Ljava/util/List;" : Cond) ∈ c1 :: gT := List.mem_cons_of_mem _ wd668
theorem wd669 : (.lays "java/lang/IllegalStateException" "java/lang/Throwable" "detailMessage" "Ljava/lang/String;" : Cond) ∈ gT := List.mem_filter.mpr ⟨List.mem_of_getElem? (i := 669) (by decide +kernel), (by decide +kernel)⟩
theorem we669 {c1 : Cond} : (.lays "java/lang/IllegalStateException" "java/lang/Throwable" "detailMessage" "Ljava/lang/String;" : Cond) ∈ c1 :: gT := List.mem_cons_of_mem _ wd669
theorem wd670 : (.lays "java/lang/IllegalStateException" "java/lang/Throwable" "backtrace" "Ljava/lang/Object;" : Cond) ∈ gT := List.mem_filter.mpr ⟨List.mem_of_getElem? (i := 670) (by decide +kernel), (by decide +kernel)⟩
theorem we670 {c1 : Cond} : (.lays "java/lang/IllegalStateException" "java/lang/Throwable" "backtrace" "Ljava/lang/Object;" : Cond) ∈ c1 :: gT := List.mem_cons_of_mem _ wd670
theorem wd672 : (.methodLink "RollingBalls" 152 ⟨"java/lang/IllegalStateException", "<init>", "(Ljava/lang/String;)V"⟩ : Cond) ∈ gT := List.mem_filter.mpr ⟨List.mem_of_getElem? (i := 672) (by decide +kernel), (by decide +kernel)⟩
theorem we672 {c1 : Cond} : (.methodLink "RollingBalls" 152 ⟨"java/lang/IllegalStateException", "<init>", "(Ljava/lang/String;)V"⟩ : Cond) ∈ c1 :: gT := List.mem_cons_of_mem _ wd672
theorem wd673 : (.instanceMethod ⟨"java/lang/IllegalStateException", "<init>", "(Ljava/lang/String;)V"⟩ : Cond) ∈ gT := List.mem_filter.mpr ⟨List.mem_of_getElem? (i := 673) (by decide +kernel), (by decide +kernel)⟩
theorem we673 {c1 : Cond} : (.instanceMethod ⟨"java/lang/IllegalStateException", "<init>", "(Ljava/lang/String;)V"⟩ : Cond) ∈ c1 :: gT := List.mem_cons_of_mem _ wd673
theorem wd674 : (.code ⟨"java/lang/IllegalStateException", "<init>", "(Ljava/lang/String;)V"⟩ prog_11_method_2_code 2 none : Cond) ∈ gT := List.mem_filter.mpr ⟨List.mem_of_getElem? (i := 674) (by decide +kernel), (by decide +kernel)⟩
theorem we674 {c1 : Cond} : (.code ⟨"java/lang/IllegalStateException", "<init>", "(Ljava/lang/String;)V"⟩ prog_11_method_2_code 2 none : Cond) ∈ c1 :: gT := List.mem_cons_of_mem _ wd674
theorem wd675 : (.methodLink "java/lang/IllegalStateException" 7 ⟨"java/lang/RuntimeException", "<init>", "(Ljava/lang/String;)V"⟩ : Cond) ∈ gT := List.mem_filter.mpr ⟨List.mem_of_getElem? (i := 675) (by decide +kernel), (by decide +kernel)⟩
theorem we675 {c1 : Cond} : (.methodLink "java/lang/IllegalStateException" 7 ⟨"java/lang/RuntimeException", "<init>", "(Ljava/lang/String;)V"⟩ : Cond) ∈ c1 :: gT := List.mem_cons_of_mem _ wd675
theorem wd676 : (.lays "java/lang/IllegalStateException" "java/lang/Throwable" "depth" "I" : Cond) ∈ gT := List.mem_filter.mpr ⟨List.mem_of_getElem? (i := 676) (by decide +kernel), (by decide +kernel)⟩
theorem we676 {c1 : Cond} : (.lays "java/lang/IllegalStateException" "java/lang/Throwable" "depth" "I" : Cond) ∈ c1 :: gT := List.mem_cons_of_mem _ wd676
theorem wd678 : (.methodLink "RollingBalls" 153 ⟨"RollingBalls$Plan", "add", "(II)V"⟩ : Cond) ∈ gT := List.mem_filter.mpr ⟨List.mem_of_getElem? (i := 678) (by decide +kernel), (by decide +kernel)⟩
theorem we678 {c1 : Cond} : (.methodLink "RollingBalls" 153 ⟨"RollingBalls$Plan", "add", "(II)V"⟩ : Cond) ∈ c1 :: gT := List.mem_cons_of_mem _ wd678
theorem wd679 : (.instanceMethod ⟨"RollingBalls$Plan", "add", "(II)V"⟩ : Cond) ∈ gT := List.mem_filter.mpr ⟨List.mem_of_getElem? (i := 679) (by decide +kernel), (by decide +kernel)⟩
theorem we679 {c1 : Cond} : (.instanceMethod ⟨"RollingBalls$Plan", "add", "(II)V"⟩ : Cond) ∈ c1 :: gT := List.mem_cons_of_mem _ wd679
theorem wd680 : (.selects "RollingBalls$Plan" ⟨"RollingBalls$Plan", "add", "(II)V"⟩ ⟨"RollingBalls$Plan", "add", "(II)V"⟩ : Cond) ∈ gT := List.mem_filter.mpr ⟨List.mem_of_getElem? (i := 680) (by decide +kernel), (by decide +kernel)⟩
theorem we680 {c1 : Cond} : (.selects "RollingBalls$Plan" ⟨"RollingBalls$Plan", "add", "(II)V"⟩ ⟨"RollingBalls$Plan", "add", "(II)V"⟩ : Cond) ∈ c1 :: gT := List.mem_cons_of_mem _ wd680
theorem wd681 : (.code ⟨"RollingBalls$Plan", "add", "(II)V"⟩ prog_5_method_4_code 3 none : Cond) ∈ gT := List.mem_filter.mpr ⟨List.mem_of_getElem? (i := 681) (by decide +kernel), (by decide +kernel)⟩
theorem we681 {c1 : Cond} : (.code ⟨"RollingBalls$Plan", "add", "(II)V"⟩ prog_5_method_4_code 3 none : Cond) ∈ c1 :: gT := List.mem_cons_of_mem _ wd681
theorem wd682 : (.methodLink "RollingBallsLaw" 103 ⟨"RollingBallsLaw", "want", "(LRollingBalls;IIZ[J)I"⟩ : Cond) ∈ gT := List.mem_filter.mpr ⟨List.mem_of_getElem? (i := 682) (by decide +kernel), (by decide +kernel)⟩
theorem we682 {c1 : Cond} : (.methodLink "RollingBallsLaw" 103 ⟨"RollingBallsLaw", "want", "(LRollingBalls;IIZ[J)I"⟩ : Cond) ∈ c1 :: gT := List.mem_cons_of_mem _ wd682
theorem wd683 : (.static ⟨"RollingBallsLaw", "want", "(LRollingBalls;IIZ[J)I"⟩ : Cond) ∈ gT := List.mem_filter.mpr ⟨List.mem_of_getElem? (i := 683) (by decide +kernel), (by decide +kernel)⟩
theorem we683 {c1 : Cond} : (.static ⟨"RollingBallsLaw", "want", "(LRollingBalls;IIZ[J)I"⟩ : Cond) ∈ c1 :: gT := List.mem_cons_of_mem _ wd683
theorem wd684 : (.codeWith ⟨"RollingBallsLaw", "want", "(LRollingBalls;IIZ[J)I"⟩ method_12_code 6 (some .int) [(0, 19, 22, 13)] : Cond) ∈ gT := List.mem_filter.mpr ⟨List.mem_of_getElem? (i := 684) (by decide +kernel), (by decide +kernel)⟩
theorem we684 {c1 : Cond} : (.codeWith ⟨"RollingBallsLaw", "want", "(LRollingBalls;IIZ[J)I"⟩ method_12_code 6 (some .int) [(0, 19, 22, 13)] : Cond) ∈ c1 :: gT := List.mem_cons_of_mem _ wd684
theorem wd685 : (.methodLink "RollingBallsLaw" 44 ⟨"RollingBalls", "want", "(IIZ)Z"⟩ : Cond) ∈ gT := List.mem_filter.mpr ⟨List.mem_of_getElem? (i := 685) (by decide +kernel), (by decide +kernel)⟩
theorem we685 {c1 : Cond} : (.methodLink "RollingBallsLaw" 44 ⟨"RollingBalls", "want", "(IIZ)Z"⟩ : Cond) ∈ c1 :: gT := List.mem_cons_of_mem _ wd685
theorem wd686 : (.instanceMethod ⟨"RollingBalls", "want", "(IIZ)Z"⟩ : Cond) ∈ gT := List.mem_filter.mpr ⟨List.mem_of_getElem? (i := 686) (by decide +kernel), (by decide +kernel)⟩
theorem we686 {c1 : Cond} : (.instanceMethod ⟨"RollingBalls", "want", "(IIZ)Z"⟩ : Cond) ∈ c1 :: gT := List.mem_cons_of_mem _ wd686
theorem wd687 : (.selects "RollingBalls" ⟨"RollingBalls", "want", "(IIZ)Z"⟩ ⟨"RollingBalls", "want", "(IIZ)Z"⟩ : Cond) ∈ gT := List.mem_filter.mpr ⟨List.mem_of_getElem? (i := 687) (by decide +kernel), (by decide +kernel)⟩
theorem we687 {c1 : Cond} : (.selects "RollingBalls" ⟨"RollingBalls", "want", "(IIZ)Z"⟩ ⟨"RollingBalls", "want", "(IIZ)Z"⟩ : Cond) ∈ c1 :: gT := List.mem_cons_of_mem _ wd687
theorem wd688 : (.code ⟨"RollingBalls", "want", "(IIZ)Z"⟩ prog_1_method_13_code 6 (some .boolean) : Cond) ∈ gT := List.mem_filter.mpr ⟨List.mem_of_getElem? (i := 688) (by decide +kernel), (by decide +kernel)⟩
theorem we688 {c1 : Cond} : (.code ⟨"RollingBalls", "want", "(IIZ)Z"⟩ prog_1_method_13_code 6 (some .boolean) : Cond) ∈ c1 :: gT := List.mem_cons_of_mem _ wd688
theorem wd689 : (.classLink "RollingBallsLaw" 57 "RollingBallsModel" : Cond) ∈ gT := List.mem_filter.mpr ⟨List.mem_of_getElem? (i := 689) (by decide +kernel), (by decide +kernel)⟩
theorem we689 {c1 : Cond} : (.classLink "RollingBallsLaw" 57 "RollingBallsModel" : Cond) ∈ c1 :: gT := List.mem_cons_of_mem _ wd689
theorem wd690 : (.instantiable "RollingBallsModel" 15 : Cond) ∈ gT := List.mem_filter.mpr ⟨List.mem_of_getElem? (i := 690) (by decide +kernel), (by decide +kernel)⟩
theorem we690 {c1 : Cond} : (.instantiable "RollingBallsModel" 15 : Cond) ∈ c1 :: gT := List.mem_cons_of_mem _ wd690
theorem wd691 : (.methodLink "RollingBallsLaw" 59 ⟨"RollingBallsModel", "<init>", "(III)V"⟩ : Cond) ∈ gT := List.mem_filter.mpr ⟨List.mem_of_getElem? (i := 691) (by decide +kernel), (by decide +kernel)⟩
theorem we691 {c1 : Cond} : (.methodLink "RollingBallsLaw" 59 ⟨"RollingBallsModel", "<init>", "(III)V"⟩ : Cond) ∈ c1 :: gT := List.mem_cons_of_mem _ wd691
theorem wd692 : (.instanceMethod ⟨"RollingBallsModel", "<init>", "(III)V"⟩ : Cond) ∈ gT := List.mem_filter.mpr ⟨List.mem_of_getElem? (i := 692) (by decide +kernel), (by decide +kernel)⟩
theorem we692 {c1 : Cond} : (.instanceMethod ⟨"RollingBallsModel", "<init>", "(III)V"⟩ : Cond) ∈ c1 :: gT := List.mem_cons_of_mem _ wd692
theorem wd693 : (.code ⟨"RollingBallsModel", "<init>", "(III)V"⟩ prog_8_method_1_code 4 none : Cond) ∈ gT := List.mem_filter.mpr ⟨List.mem_of_getElem? (i := 693) (by decide +kernel), (by decide +kernel)⟩
theorem we693 {c1 : Cond} : (.code ⟨"RollingBallsModel", "<init>", "(III)V"⟩ prog_8_method_1_code 4 none : Cond) ∈ c1 :: gT := List.mem_cons_of_mem _ wd693
theorem wd694 : (.methodLink "RollingBallsModel" 1 ⟨"java/lang/Object", "<init>", "()V"⟩ : Cond) ∈ gT := List.mem_filter.mpr ⟨List.mem_of_getElem? (i := 694) (by decide +kernel), (by decide +kernel)⟩
theorem we694 {c1 : Cond} : (.methodLink "RollingBallsModel" 1 ⟨"java/lang/Object", "<init>", "()V"⟩ : Cond) ∈ c1 :: gT := List.mem_cons_of_mem _ wd694
theorem wd695 : (.methodLink "RollingBallsModel" 41 ⟨"RollingBallsModel", "nearest", "(II)I"⟩ : Cond) ∈ gT := List.mem_filter.mpr ⟨List.mem_of_getElem? (i := 695) (by decide +kernel), (by decide +kernel)⟩
theorem we695 {c1 : Cond} : (.methodLink "RollingBallsModel" 41 ⟨"RollingBallsModel", "nearest", "(II)I"⟩ : Cond) ∈ c1 :: gT := List.mem_cons_of_mem _ wd695
theorem wd696 : (.static ⟨"RollingBallsModel", "nearest", "(II)I"⟩ : Cond) ∈ gT := List.mem_filter.mpr ⟨List.mem_of_getElem? (i := 696) (by decide +kernel), (by decide +kernel)⟩
theorem we696 {c1 : Cond} : (.static ⟨"RollingBallsModel", "nearest", "(II)I"⟩ : Cond) ∈ c1 :: gT := List.mem_cons_of_mem _ wd696
theorem wd697 : (.code ⟨"RollingBallsModel", "nearest", "(II)I"⟩ prog_8_method_2_code 2 (some .int) : Cond) ∈ gT := List.mem_filter.mpr ⟨List.mem_of_getElem? (i := 697) (by decide +kernel), (by decide +kernel)⟩
theorem we697 {c1 : Cond} : (.code ⟨"RollingBallsModel", "nearest", "(II)I"⟩ prog_8_method_2_code 2 (some .int) : Cond) ∈ c1 :: gT := List.mem_cons_of_mem _ wd697
theorem wd698 : (.fieldLink "RollingBallsModel" 55 "RollingBallsModel" "code" "I" : Cond) ∈ gT := List.mem_filter.mpr ⟨List.mem_of_getElem? (i := 698) (by decide +kernel), (by decide +kernel)⟩
theorem we698 {c1 : Cond} : (.fieldLink "RollingBallsModel" 55 "RollingBallsModel" "code" "I" : Cond) ∈ c1 :: gT := List.mem_cons_of_mem _ wd698
theorem wd699 : (.fieldLink "RollingBallsModel" 45 "RollingBallsModel" "wide" "I" : Cond) ∈ gT := List.mem_filter.mpr ⟨List.mem_of_getElem? (i := 699) (by decide +kernel), (by decide +kernel)⟩
theorem we699 {c1 : Cond} : (.fieldLink "RollingBallsModel" 45 "RollingBallsModel" "wide" "I" : Cond) ∈ c1 :: gT := List.mem_cons_of_mem _ wd699
theorem wd700 : (.fieldLink "RollingBallsModel" 49 "RollingBallsModel" "deep" "I" : Cond) ∈ gT := List.mem_filter.mpr ⟨List.mem_of_getElem? (i := 700) (by decide +kernel), (by decide +kernel)⟩
theorem we700 {c1 : Cond} : (.fieldLink "RollingBallsModel" 49 "RollingBallsModel" "deep" "I" : Cond) ∈ c1 :: gT := List.mem_cons_of_mem _ wd700
theorem wd701 : (.fieldLink "RollingBallsModel" 52 "RollingBallsModel" "radius" "I" : Cond) ∈ gT := List.mem_filter.mpr ⟨List.mem_of_getElem? (i := 701) (by decide +kernel), (by decide +kernel)⟩
theorem we701 {c1 : Cond} : (.fieldLink "RollingBallsModel" 52 "RollingBallsModel" "radius" "I" : Cond) ∈ c1 :: gT := List.mem_cons_of_mem _ wd701
theorem wd702 : (.fieldLink "RollingBallsModel" 7 "RollingBallsModel" "heights" "[I" : Cond) ∈ gT := List.mem_filter.mpr ⟨List.mem_of_getElem? (i := 702) (by decide +kernel), (by decide +kernel)⟩
theorem we702 {c1 : Cond} : (.fieldLink "RollingBallsModel" 7 "RollingBallsModel" "heights" "[I" : Cond) ∈ c1 :: gT := List.mem_cons_of_mem _ wd702
theorem wd703 : (.fieldLink "RollingBallsModel" 13 "RollingBallsModel" "rods" "[I" : Cond) ∈ gT := List.mem_filter.mpr ⟨List.mem_of_getElem? (i := 703) (by decide +kernel), (by decide +kernel)⟩
theorem we703 {c1 : Cond} : (.fieldLink "RollingBallsModel" 13 "RollingBallsModel" "rods" "[I" : Cond) ∈ c1 :: gT := List.mem_cons_of_mem _ wd703
theorem wd704 : (.fieldLink "RollingBallsModel" 16 "RollingBallsModel" "tips" "[I" : Cond) ∈ gT := List.mem_filter.mpr ⟨List.mem_of_getElem? (i := 704) (by decide +kernel), (by decide +kernel)⟩
theorem we704 {c1 : Cond} : (.fieldLink "RollingBallsModel" 16 "RollingBallsModel" "tips" "[I" : Cond) ∈ c1 :: gT := List.mem_cons_of_mem _ wd704
theorem wd705 : (.fieldLink "RollingBallsModel" 19 "RollingBallsModel" "wanted" "[Z" : Cond) ∈ gT := List.mem_filter.mpr ⟨List.mem_of_getElem? (i := 705) (by decide +kernel), (by decide +kernel)⟩
theorem we705 {c1 : Cond} : (.fieldLink "RollingBallsModel" 19 "RollingBallsModel" "wanted" "[Z" : Cond) ∈ c1 :: gT := List.mem_cons_of_mem _ wd705
theorem wd706 : (.fieldLink "RollingBallsModel" 114 "RollingBallsModel" "may" "I" : Cond) ∈ gT := List.mem_filter.mpr ⟨List.mem_of_getElem? (i := 706) (by decide +kernel), (by decide +kernel)⟩
theorem we706 {c1 : Cond} : (.fieldLink "RollingBallsModel" 114 "RollingBallsModel" "may" "I" : Cond) ∈ c1 :: gT := List.mem_cons_of_mem _ wd706
theorem wd707 : (.fieldLink "RollingBallsModel" 23 "RollingBallsModel" "mayPoint" "[I" : Cond) ∈ gT := List.mem_filter.mpr ⟨List.mem_of_getElem? (i := 707) (by decide +kernel), (by decide +kernel)⟩
theorem we707 {c1 : Cond} : (.fieldLink "RollingBallsModel" 23 "RollingBallsModel" "mayPoint" "[I" : Cond) ∈ c1 :: gT := List.mem_cons_of_mem _ wd707
theorem wd708 : (.fieldLink "RollingBallsModel" 26 "RollingBallsModel" "mayLength" "[I" : Cond) ∈ gT := List.mem_filter.mpr ⟨List.mem_of_getElem? (i := 708) (by decide +kernel), (by decide +kernel)⟩
theorem we708 {c1 : Cond} : (.fieldLink "RollingBallsModel" 26 "RollingBallsModel" "mayLength" "[I" : Cond) ∈ c1 :: gT := List.mem_cons_of_mem _ wd708
theorem wd709 : (.fieldLink "RollingBallsModel" 29 "RollingBallsModel" "whole" "[I" : Cond) ∈ gT := List.mem_filter.mpr ⟨List.mem_of_getElem? (i := 709) (by decide +kernel), (by decide +kernel)⟩
theorem we709 {c1 : Cond} : (.fieldLink "RollingBallsModel" 29 "RollingBallsModel" "whole" "[I" : Cond) ∈ c1 :: gT := List.mem_cons_of_mem _ wd709
theorem wd710 : (.fieldLink "RollingBallsModel" 32 "RollingBallsModel" "square" "[I" : Cond) ∈ gT := List.mem_filter.mpr ⟨List.mem_of_getElem? (i := 710) (by decide +kernel), (by decide +kernel)⟩
theorem we710 {c1 : Cond} : (.fieldLink "RollingBallsModel" 32 "RollingBallsModel" "square" "[I" : Cond) ∈ c1 :: gT := List.mem_cons_of_mem _ wd710
theorem wd711 : (.fieldLink "RollingBallsModel" 35 "RollingBallsModel" "hits" "[I" : Cond) ∈ gT := List.mem_filter.mpr ⟨List.mem_of_getElem? (i := 711) (by decide +kernel), (by decide +kernel)⟩
theorem we711 {c1 : Cond} : (.fieldLink "RollingBallsModel" 35 "RollingBallsModel" "hits" "[I" : Cond) ∈ c1 :: gT := List.mem_cons_of_mem _ wd711
theorem wd712 : (.fieldLink "RollingBallsModel" 38 "RollingBallsModel" "wasSafe" "[Z" : Cond) ∈ gT := List.mem_filter.mpr ⟨List.mem_of_getElem? (i := 712) (by decide +kernel), (by decide +kernel)⟩
theorem we712 {c1 : Cond} : (.fieldLink "RollingBallsModel" 38 "RollingBallsModel" "wasSafe" "[Z" : Cond) ∈ c1 :: gT := List.mem_cons_of_mem _ wd712
theorem wd713 : (.lays "RollingBallsModel" "RollingBallsModel" "code" "I" : Cond) ∈ gT := List.mem_filter.mpr ⟨List.mem_of_getElem? (i := 713) (by decide +kernel), (by decide +kernel)⟩
theorem we713 {c1 : Cond} : (.lays "RollingBallsModel" "RollingBallsModel" "code" "I" : Cond) ∈ c1 :: gT := List.mem_cons_of_mem _ wd713
theorem wd715 : (.laysFinal "RollingBallsModel" "RollingBallsModel" "wide" "I" : Cond) ∈ gT := List.mem_filter.mpr ⟨List.mem_of_getElem? (i := 715) (by decide +kernel), (by decide +kernel)⟩
theorem we715 {c1 : Cond} : (.laysFinal "RollingBallsModel" "RollingBallsModel" "wide" "I" : Cond) ∈ c1 :: gT := List.mem_cons_of_mem _ wd715
theorem wd717 : (.laysFinal "RollingBallsModel" "RollingBallsModel" "deep" "I" : Cond) ∈ gT := List.mem_filter.mpr ⟨List.mem_of_getElem? (i := 717) (by decide +kernel), (by decide +kernel)⟩
theorem we717 {c1 : Cond} : (.laysFinal "RollingBallsModel" "RollingBallsModel" "deep" "I" : Cond) ∈ c1 :: gT := List.mem_cons_of_mem _ wd717
theorem wd719 : (.laysFinal "RollingBallsModel" "RollingBallsModel" "radius" "I" : Cond) ∈ gT := List.mem_filter.mpr ⟨List.mem_of_getElem? (i := 719) (by decide +kernel), (by decide +kernel)⟩
theorem we719 {c1 : Cond} : (.laysFinal "RollingBallsModel" "RollingBallsModel" "radius" "I" : Cond) ∈ c1 :: gT := List.mem_cons_of_mem _ wd719
theorem wd721 : (.laysFinal "RollingBallsModel" "RollingBallsModel" "heights" "[I" : Cond) ∈ gT := List.mem_filter.mpr ⟨List.mem_of_getElem? (i := 721) (by decide +kernel), (by decide +kernel)⟩
theorem we721 {c1 : Cond} : (.laysFinal "RollingBallsModel" "RollingBallsModel" "heights" "[I" : Cond) ∈ c1 :: gT := List.mem_cons_of_mem _ wd721
theorem wd723 : (.laysFinal "RollingBallsModel" "RollingBallsModel" "rods" "[I" : Cond) ∈ gT := List.mem_filter.mpr ⟨List.mem_of_getElem? (i := 723) (by decide +kernel), (by decide +kernel)⟩
theorem we723 {c1 : Cond} : (.laysFinal "RollingBallsModel" "RollingBallsModel" "rods" "[I" : Cond) ∈ c1 :: gT := List.mem_cons_of_mem _ wd723
theorem wd725 : (.laysFinal "RollingBallsModel" "RollingBallsModel" "tips" "[I" : Cond) ∈ gT := List.mem_filter.mpr ⟨List.mem_of_getElem? (i := 725) (by decide +kernel), (by decide +kernel)⟩
theorem we725 {c1 : Cond} : (.laysFinal "RollingBallsModel" "RollingBallsModel" "tips" "[I" : Cond) ∈ c1 :: gT := List.mem_cons_of_mem _ wd725
theorem wd727 : (.laysFinal "RollingBallsModel" "RollingBallsModel" "wanted" "[Z" : Cond) ∈ gT := List.mem_filter.mpr ⟨List.mem_of_getElem? (i := 727) (by decide +kernel), (by decide +kernel)⟩
theorem we727 {c1 : Cond} : (.laysFinal "RollingBallsModel" "RollingBallsModel" "wanted" "[Z" : Cond) ∈ c1 :: gT := List.mem_cons_of_mem _ wd727
theorem wd729 : (.lays "RollingBallsModel" "RollingBallsModel" "may" "I" : Cond) ∈ gT := List.mem_filter.mpr ⟨List.mem_of_getElem? (i := 729) (by decide +kernel), (by decide +kernel)⟩
theorem we729 {c1 : Cond} : (.lays "RollingBallsModel" "RollingBallsModel" "may" "I" : Cond) ∈ c1 :: gT := List.mem_cons_of_mem _ wd729
theorem wd731 : (.laysFinal "RollingBallsModel" "RollingBallsModel" "mayPoint" "[I" : Cond) ∈ gT := List.mem_filter.mpr ⟨List.mem_of_getElem? (i := 731) (by decide +kernel), (by decide +kernel)⟩
theorem we731 {c1 : Cond} : (.laysFinal "RollingBallsModel" "RollingBallsModel" "mayPoint" "[I" : Cond) ∈ c1 :: gT := List.mem_cons_of_mem _ wd731
theorem wd733 : (.laysFinal "RollingBallsModel" "RollingBallsModel" "mayLength" "[I" : Cond) ∈ gT := List.mem_filter.mpr ⟨List.mem_of_getElem? (i := 733) (by decide +kernel), (by decide +kernel)⟩
theorem we733 {c1 : Cond} : (.laysFinal "RollingBallsModel" "RollingBallsModel" "mayLength" "[I" : Cond) ∈ c1 :: gT := List.mem_cons_of_mem _ wd733
theorem wd735 : (.laysFinal "RollingBallsModel" "RollingBallsModel" "whole" "[I" : Cond) ∈ gT := List.mem_filter.mpr ⟨List.mem_of_getElem? (i := 735) (by decide +kernel), (by decide +kernel)⟩
theorem we735 {c1 : Cond} : (.laysFinal "RollingBallsModel" "RollingBallsModel" "whole" "[I" : Cond) ∈ c1 :: gT := List.mem_cons_of_mem _ wd735
theorem wd737 : (.laysFinal "RollingBallsModel" "RollingBallsModel" "square" "[I" : Cond) ∈ gT := List.mem_filter.mpr ⟨List.mem_of_getElem? (i := 737) (by decide +kernel), (by decide +kernel)⟩
theorem we737 {c1 : Cond} : (.laysFinal "RollingBallsModel" "RollingBallsModel" "square" "[I" : Cond) ∈ c1 :: gT := List.mem_cons_of_mem _ wd737
theorem wd739 : (.laysFinal "RollingBallsModel" "RollingBallsModel" "hits" "[I" : Cond) ∈ gT := List.mem_filter.mpr ⟨List.mem_of_getElem? (i := 739) (by decide +kernel), (by decide +kernel)⟩
theorem we739 {c1 : Cond} : (.laysFinal "RollingBallsModel" "RollingBallsModel" "hits" "[I" : Cond) ∈ c1 :: gT := List.mem_cons_of_mem _ wd739
theorem wd741 : (.laysFinal "RollingBallsModel" "RollingBallsModel" "wasSafe" "[Z" : Cond) ∈ gT := List.mem_filter.mpr ⟨List.mem_of_getElem? (i := 741) (by decide +kernel), (by decide +kernel)⟩
theorem we741 {c1 : Cond} : (.laysFinal "RollingBallsModel" "RollingBallsModel" "wasSafe" "[Z" : Cond) ∈ c1 :: gT := List.mem_cons_of_mem _ wd741
theorem wd744 : (.methodLink "RollingBallsLaw" 64 ⟨"RollingBallsModel", "thrown", "()I"⟩ : Cond) ∈ gT := List.mem_filter.mpr ⟨List.mem_of_getElem? (i := 744) (by decide +kernel), (by decide +kernel)⟩
theorem we744 {c1 : Cond} : (.methodLink "RollingBallsLaw" 64 ⟨"RollingBallsModel", "thrown", "()I"⟩ : Cond) ∈ c1 :: gT := List.mem_cons_of_mem _ wd744
theorem wd745 : (.instanceMethod ⟨"RollingBallsModel", "thrown", "()I"⟩ : Cond) ∈ gT := List.mem_filter.mpr ⟨List.mem_of_getElem? (i := 745) (by decide +kernel), (by decide +kernel)⟩
theorem we745 {c1 : Cond} : (.instanceMethod ⟨"RollingBallsModel", "thrown", "()I"⟩ : Cond) ∈ c1 :: gT := List.mem_cons_of_mem _ wd745
theorem wd746 : (.selects "RollingBallsModel" ⟨"RollingBallsModel", "thrown", "()I"⟩ ⟨"RollingBallsModel", "thrown", "()I"⟩ : Cond) ∈ gT := List.mem_filter.mpr ⟨List.mem_of_getElem? (i := 746) (by decide +kernel), (by decide +kernel)⟩
theorem we746 {c1 : Cond} : (.selects "RollingBallsModel" ⟨"RollingBallsModel", "thrown", "()I"⟩ ⟨"RollingBallsModel", "thrown", "()I"⟩ : Cond) ∈ c1 :: gT := List.mem_cons_of_mem _ wd746
theorem wd747 : (.code ⟨"RollingBallsModel", "thrown", "()I"⟩ prog_8_method_3_code 1 (some .int) : Cond) ∈ gT := List.mem_filter.mpr ⟨List.mem_of_getElem? (i := 747) (by decide +kernel), (by decide +kernel)⟩
theorem we747 {c1 : Cond} : (.code ⟨"RollingBallsModel", "thrown", "()I"⟩ prog_8_method_3_code 1 (some .int) : Cond) ∈ c1 :: gT := List.mem_cons_of_mem _ wd747
theorem wd748 : (.methodLink "RollingBallsLaw" 63 ⟨"RollingBallsModel", "height", "(III)I"⟩ : Cond) ∈ gT := List.mem_filter.mpr ⟨List.mem_of_getElem? (i := 748) (by decide +kernel), (by decide +kernel)⟩
theorem we748 {c1 : Cond} : (.methodLink "RollingBallsLaw" 63 ⟨"RollingBallsModel", "height", "(III)I"⟩ : Cond) ∈ c1 :: gT := List.mem_cons_of_mem _ wd748
theorem wd749 : (.instanceMethod ⟨"RollingBallsModel", "height", "(III)I"⟩ : Cond) ∈ gT := List.mem_filter.mpr ⟨List.mem_of_getElem? (i := 749) (by decide +kernel), (by decide +kernel)⟩
theorem we749 {c1 : Cond} : (.instanceMethod ⟨"RollingBallsModel", "height", "(III)I"⟩ : Cond) ∈ c1 :: gT := List.mem_cons_of_mem _ wd749
theorem wd750 : (.selects "RollingBallsModel" ⟨"RollingBallsModel", "height", "(III)I"⟩ ⟨"RollingBallsModel", "height", "(III)I"⟩ : Cond) ∈ gT := List.mem_filter.mpr ⟨List.mem_of_getElem? (i := 750) (by decide +kernel), (by decide +kernel)⟩
theorem we750 {c1 : Cond} : (.selects "RollingBallsModel" ⟨"RollingBallsModel", "height", "(III)I"⟩ ⟨"RollingBallsModel", "height", "(III)I"⟩ : Cond) ∈ c1 :: gT := List.mem_cons_of_mem _ wd750
theorem wd751 : (.code ⟨"RollingBallsModel", "height", "(III)I"⟩ prog_8_method_19_code 5 (some .int) : Cond) ∈ gT := List.mem_filter.mpr ⟨List.mem_of_getElem? (i := 751) (by decide +kernel), (by decide +kernel)⟩
theorem we751 {c1 : Cond} : (.code ⟨"RollingBallsModel", "height", "(III)I"⟩ prog_8_method_19_code 5 (some .int) : Cond) ∈ c1 :: gT := List.mem_cons_of_mem _ wd751
theorem wd752 : (.methodLink "RollingBallsModel" 70 ⟨"RollingBallsModel", "isPoint", "(II)Z"⟩ : Cond) ∈ gT := List.mem_filter.mpr ⟨List.mem_of_getElem? (i := 752) (by decide +kernel), (by decide +kernel)⟩
theorem we752 {c1 : Cond} : (.methodLink "RollingBallsModel" 70 ⟨"RollingBallsModel", "isPoint", "(II)Z"⟩ : Cond) ∈ c1 :: gT := List.mem_cons_of_mem _ wd752
theorem wd754 : (.instanceMethod ⟨"RollingBallsModel", "isPoint", "(II)Z"⟩ : Cond) ∈ gT := List.mem_filter.mpr ⟨List.mem_of_getElem? (i := 754) (by decide +kernel), (by decide +kernel)⟩
theorem we754 {c1 : Cond} : (.instanceMethod ⟨"RollingBallsModel", "isPoint", "(II)Z"⟩ : Cond) ∈ c1 :: gT := List.mem_cons_of_mem _ wd754
theorem wd755 : (.code ⟨"RollingBallsModel", "isPoint", "(II)Z"⟩ prog_8_method_5_code 3 (some .boolean) : Cond) ∈ gT := List.mem_filter.mpr ⟨List.mem_of_getElem? (i := 755) (by decide +kernel), (by decide +kernel)⟩
theorem we755 {c1 : Cond} : (.code ⟨"RollingBallsModel", "isPoint", "(II)Z"⟩ prog_8_method_5_code 3 (some .boolean) : Cond) ∈ c1 :: gT := List.mem_cons_of_mem _ wd755
theorem wd756 : (.methodLink "RollingBallsModel" 58 ⟨"RollingBallsModel", "in", "(III)Z"⟩ : Cond) ∈ gT := List.mem_filter.mpr ⟨List.mem_of_getElem? (i := 756) (by decide +kernel), (by decide +kernel)⟩
theorem we756 {c1 : Cond} : (.methodLink "RollingBallsModel" 58 ⟨"RollingBallsModel", "in", "(III)Z"⟩ : Cond) ∈ c1 :: gT := List.mem_cons_of_mem _ wd756
theorem wd757 : (.static ⟨"RollingBallsModel", "in", "(III)Z"⟩ : Cond) ∈ gT := List.mem_filter.mpr ⟨List.mem_of_getElem? (i := 757) (by decide +kernel), (by decide +kernel)⟩
theorem we757 {c1 : Cond} : (.static ⟨"RollingBallsModel", "in", "(III)Z"⟩ : Cond) ∈ c1 :: gT := List.mem_cons_of_mem _ wd757
theorem wd758 : (.code ⟨"RollingBallsModel", "in", "(III)Z"⟩ prog_8_method_4_code 3 (some .boolean) : Cond) ∈ gT := List.mem_filter.mpr ⟨List.mem_of_getElem? (i := 758) (by decide +kernel), (by decide +kernel)⟩
theorem we758 {c1 : Cond} : (.code ⟨"RollingBallsModel", "in", "(III)Z"⟩ prog_8_method_4_code 3 (some .boolean) : Cond) ∈ c1 :: gT := List.mem_cons_of_mem _ wd758
theorem wd759 : (.methodLink "RollingBallsModel" 91 ⟨"RollingBallsModel", "spot", "(II)I"⟩ : Cond) ∈ gT := List.mem_filter.mpr ⟨List.mem_of_getElem? (i := 759) (by decide +kernel), (by decide +kernel)⟩
theorem we759 {c1 : Cond} : (.methodLink "RollingBallsModel" 91 ⟨"RollingBallsModel", "spot", "(II)I"⟩ : Cond) ∈ c1 :: gT := List.mem_cons_of_mem _ wd759
theorem wd760 : (.static ⟨"RollingBallsModel", "spot", "(II)I"⟩ : Cond) ∈ gT := List.mem_filter.mpr ⟨List.mem_of_getElem? (i := 760) (by decide +kernel), (by decide +kernel)⟩
theorem we760 {c1 : Cond} : (.static ⟨"RollingBallsModel", "spot", "(II)I"⟩ : Cond) ∈ c1 :: gT := List.mem_cons_of_mem _ wd760
theorem wd761 : (.code ⟨"RollingBallsModel", "spot", "(II)I"⟩ prog_8_method_7_code 2 (some .int) : Cond) ∈ gT := List.mem_filter.mpr ⟨List.mem_of_getElem? (i := 761) (by decide +kernel), (by decide +kernel)⟩
theorem we761 {c1 : Cond} : (.code ⟨"RollingBallsModel", "spot", "(II)I"⟩ prog_8_method_7_code 2 (some .int) : Cond) ∈ c1 :: gT := List.mem_cons_of_mem _ wd761
theorem wd762 : (.methodLink "RollingBallsLaw" 70 ⟨"RollingBallsModel", "rod", "(III)I"⟩ : Cond) ∈ gT := List.mem_filter.mpr ⟨List.mem_of_getElem? (i := 762) (by decide +kernel), (by decide +kernel)⟩
theorem we762 {c1 : Cond} : (.methodLink "RollingBallsLaw" 70 ⟨"RollingBallsModel", "rod", "(III)I"⟩ : Cond) ∈ c1 :: gT := List.mem_cons_of_mem _ wd762
theorem wd763 : (.instanceMethod ⟨"RollingBallsModel", "rod", "(III)I"⟩ : Cond) ∈ gT := List.mem_filter.mpr ⟨List.mem_of_getElem? (i := 763) (by decide +kernel), (by decide +kernel)⟩
theorem we763 {c1 : Cond} : (.instanceMethod ⟨"RollingBallsModel", "rod", "(III)I"⟩ : Cond) ∈ c1 :: gT := List.mem_cons_of_mem _ wd763
theorem wd764 : (.selects "RollingBallsModel" ⟨"RollingBallsModel", "rod", "(III)I"⟩ ⟨"RollingBallsModel", "rod", "(III)I"⟩ : Cond) ∈ gT := List.mem_filter.mpr ⟨List.mem_of_getElem? (i := 764) (by decide +kernel), (by decide +kernel)⟩
theorem we764 {c1 : Cond} : (.selects "RollingBallsModel" ⟨"RollingBallsModel", "rod", "(III)I"⟩ ⟨"RollingBallsModel", "rod", "(III)I"⟩ : Cond) ∈ c1 :: gT := List.mem_cons_of_mem _ wd764
theorem wd765 : (.code ⟨"RollingBallsModel", "rod", "(III)I"⟩ prog_8_method_20_code 5 (some .int) : Cond) ∈ gT := List.mem_filter.mpr ⟨List.mem_of_getElem? (i := 765) (by decide +kernel), (by decide +kernel)⟩
theorem we765 {c1 : Cond} : (.code ⟨"RollingBallsModel", "rod", "(III)I"⟩ prog_8_method_20_code 5 (some .int) : Cond) ∈ c1 :: gT := List.mem_cons_of_mem _ wd765
theorem wd766 : (.methodLink "RollingBallsLaw" 73 ⟨"RollingBallsModel", "rest", "(III)I"⟩ : Cond) ∈ gT := List.mem_filter.mpr ⟨List.mem_of_getElem? (i := 766) (by decide +kernel), (by decide +kernel)⟩
theorem we766 {c1 : Cond} : (.methodLink "RollingBallsLaw" 73 ⟨"RollingBallsModel", "rest", "(III)I"⟩ : Cond) ∈ c1 :: gT := List.mem_cons_of_mem _ wd766
theorem wd767 : (.instanceMethod ⟨"RollingBallsModel", "rest", "(III)I"⟩ : Cond) ∈ gT := List.mem_filter.mpr ⟨List.mem_of_getElem? (i := 767) (by decide +kernel), (by decide +kernel)⟩
theorem we767 {c1 : Cond} : (.instanceMethod ⟨"RollingBallsModel", "rest", "(III)I"⟩ : Cond) ∈ c1 :: gT := List.mem_cons_of_mem _ wd767
theorem wd768 : (.selects "RollingBallsModel" ⟨"RollingBallsModel", "rest", "(III)I"⟩ ⟨"RollingBallsModel", "rest", "(III)I"⟩ : Cond) ∈ gT := List.mem_filter.mpr ⟨List.mem_of_getElem? (i := 768) (by decide +kernel), (by decide +kernel)⟩
theorem we768 {c1 : Cond} : (.selects "RollingBallsModel" ⟨"RollingBallsModel", "rest", "(III)I"⟩ ⟨"RollingBallsModel", "rest", "(III)I"⟩ : Cond) ∈ c1 :: gT := List.mem_cons_of_mem _ wd768
theorem wd769 : (.code ⟨"RollingBallsModel", "rest", "(III)I"⟩ prog_8_method_21_code 8 (some .int) : Cond) ∈ gT := List.mem_filter.mpr ⟨List.mem_of_getElem? (i := 769) (by decide +kernel), (by decide +kernel)⟩
theorem we769 {c1 : Cond} : (.code ⟨"RollingBallsModel", "rest", "(III)I"⟩ prog_8_method_21_code 8 (some .int) : Cond) ∈ c1 :: gT := List.mem_cons_of_mem _ wd769
theorem wd770 : (.methodLink "RollingBallsModel" 94 ⟨"RollingBallsModel", "isPlace", "(II)Z"⟩ : Cond) ∈ gT := List.mem_filter.mpr ⟨List.mem_of_getElem? (i := 770) (by decide +kernel), (by decide +kernel)⟩
theorem we770 {c1 : Cond} : (.methodLink "RollingBallsModel" 94 ⟨"RollingBallsModel", "isPlace", "(II)Z"⟩ : Cond) ∈ c1 :: gT := List.mem_cons_of_mem _ wd770
theorem wd772 : (.instanceMethod ⟨"RollingBallsModel", "isPlace", "(II)Z"⟩ : Cond) ∈ gT := List.mem_filter.mpr ⟨List.mem_of_getElem? (i := 772) (by decide +kernel), (by decide +kernel)⟩
theorem we772 {c1 : Cond} : (.instanceMethod ⟨"RollingBallsModel", "isPlace", "(II)Z"⟩ : Cond) ∈ c1 :: gT := List.mem_cons_of_mem _ wd772
theorem wd773 : (.code ⟨"RollingBallsModel", "isPlace", "(II)Z"⟩ prog_8_method_6_code 3 (some .boolean) : Cond) ∈ gT := List.mem_filter.mpr ⟨List.mem_of_getElem? (i := 773) (by decide +kernel), (by decide +kernel)⟩
theorem we773 {c1 : Cond} : (.code ⟨"RollingBallsModel", "isPlace", "(II)Z"⟩ prog_8_method_6_code 3 (some .boolean) : Cond) ∈ c1 :: gT := List.mem_cons_of_mem _ wd773
theorem wd774 : (.methodLink "RollingBallsModel" 97 ⟨"RollingBallsModel", "stand", "()V"⟩ : Cond) ∈ gT := List.mem_filter.mpr ⟨List.mem_of_getElem? (i := 774) (by decide +kernel), (by decide +kernel)⟩
theorem we774 {c1 : Cond} : (.methodLink "RollingBallsModel" 97 ⟨"RollingBallsModel", "stand", "()V"⟩ : Cond) ∈ c1 :: gT := List.mem_cons_of_mem _ wd774
theorem wd776 : (.instanceMethod ⟨"RollingBallsModel", "stand", "()V"⟩ : Cond) ∈ gT := List.mem_filter.mpr ⟨List.mem_of_getElem? (i := 776) (by decide +kernel), (by decide +kernel)⟩
theorem we776 {c1 : Cond} : (.instanceMethod ⟨"RollingBallsModel", "stand", "()V"⟩ : Cond) ∈ c1 :: gT := List.mem_cons_of_mem _ wd776
theorem wd777 : (.code ⟨"RollingBallsModel", "stand", "()V"⟩ prog_8_method_17_code 2 none : Cond) ∈ gT := List.mem_filter.mpr ⟨List.mem_of_getElem? (i := 777) (by decide +kernel), (by decide +kernel)⟩
theorem we777 {c1 : Cond} : (.code ⟨"RollingBallsModel", "stand", "()V"⟩ prog_8_method_17_code 2 none : Cond) ∈ c1 :: gT := List.mem_cons_of_mem _ wd777
theorem wd778 : (.methodLink "RollingBallsModel" 84 ⟨"RollingBallsModel", "restAt", "(II)V"⟩ : Cond) ∈ gT := List.mem_filter.mpr ⟨List.mem_of_getElem? (i := 778) (by decide +kernel), (by decide +kernel)⟩
theorem we778 {c1 : Cond} : (.methodLink "RollingBallsModel" 84 ⟨"RollingBallsModel", "restAt", "(II)V"⟩ : Cond) ∈ c1 :: gT := List.mem_cons_of_mem _ wd778
theorem wd780 : (.instanceMethod ⟨"RollingBallsModel", "restAt", "(II)V"⟩ : Cond) ∈ gT := List.mem_filter.mpr ⟨List.mem_of_getElem? (i := 780) (by decide +kernel), (by decide +kernel)⟩
theorem we780 {c1 : Cond} : (.instanceMethod ⟨"RollingBallsModel", "restAt", "(II)V"⟩ : Cond) ∈ c1 :: gT := List.mem_cons_of_mem _ wd780
theorem wd781 : (.code ⟨"RollingBallsModel", "restAt", "(II)V"⟩ prog_8_method_15_code 6 none : Cond) ∈ gT := List.mem_filter.mpr ⟨List.mem_of_getElem? (i := 781) (by decide +kernel), (by decide +kernel)⟩
theorem we781 {c1 : Cond} : (.code ⟨"RollingBallsModel", "restAt", "(II)V"⟩ prog_8_method_15_code 6 none : Cond) ∈ c1 :: gT := List.mem_cons_of_mem _ wd781
theorem wd782 : (.methodLink "RollingBallsModel" 78 ⟨"RollingBallsModel", "placeAt", "(II)I"⟩ : Cond) ∈ gT := List.mem_filter.mpr ⟨List.mem_of_getElem? (i := 782) (by decide +kernel), (by decide +kernel)⟩
theorem we782 {c1 : Cond} : (.methodLink "RollingBallsModel" 78 ⟨"RollingBallsModel", "placeAt", "(II)I"⟩ : Cond) ∈ c1 :: gT := List.mem_cons_of_mem _ wd782
theorem wd784 : (.instanceMethod ⟨"RollingBallsModel", "placeAt", "(II)I"⟩ : Cond) ∈ gT := List.mem_filter.mpr ⟨List.mem_of_getElem? (i := 784) (by decide +kernel), (by decide +kernel)⟩
theorem we784 {c1 : Cond} : (.instanceMethod ⟨"RollingBallsModel", "placeAt", "(II)I"⟩ : Cond) ∈ c1 :: gT := List.mem_cons_of_mem _ wd784
theorem wd785 : (.code ⟨"RollingBallsModel", "placeAt", "(II)I"⟩ prog_8_method_10_code 3 (some .int) : Cond) ∈ gT := List.mem_filter.mpr ⟨List.mem_of_getElem? (i := 785) (by decide +kernel), (by decide +kernel)⟩
theorem we785 {c1 : Cond} : (.code ⟨"RollingBallsModel", "placeAt", "(II)I"⟩ prog_8_method_10_code 3 (some .int) : Cond) ∈ c1 :: gT := List.mem_cons_of_mem _ wd785
theorem wd786 : (.methodLink "RollingBallsModel" 62 ⟨"RollingBallsModel", "across", "()I"⟩ : Cond) ∈ gT := List.mem_filter.mpr ⟨List.mem_of_getElem? (i := 786) (by decide +kernel), (by decide +kernel)⟩
theorem we786 {c1 : Cond} : (.methodLink "RollingBallsModel" 62 ⟨"RollingBallsModel", "across", "()I"⟩ : Cond) ∈ c1 :: gT := List.mem_cons_of_mem _ wd786
theorem wd788 : (.instanceMethod ⟨"RollingBallsModel", "across", "()I"⟩ : Cond) ∈ gT := List.mem_filter.mpr ⟨List.mem_of_getElem? (i := 788) (by decide +kernel), (by decide +kernel)⟩
theorem we788 {c1 : Cond} : (.instanceMethod ⟨"RollingBallsModel", "across", "()I"⟩ : Cond) ∈ c1 :: gT := List.mem_cons_of_mem _ wd788
theorem wd789 : (.code ⟨"RollingBallsModel", "across", "()I"⟩ prog_8_method_8_code 1 (some .int) : Cond) ∈ gT := List.mem_filter.mpr ⟨List.mem_of_getElem? (i := 789) (by decide +kernel), (by decide +kernel)⟩
theorem we789 {c1 : Cond} : (.code ⟨"RollingBallsModel", "across", "()I"⟩ prog_8_method_8_code 1 (some .int) : Cond) ∈ c1 :: gT := List.mem_cons_of_mem _ wd789
theorem wd790 : (.methodLink "RollingBallsModel" 81 ⟨"RollingBallsModel", "isNear", "(III)Z"⟩ : Cond) ∈ gT := List.mem_filter.mpr ⟨List.mem_of_getElem? (i := 790) (by decide +kernel), (by decide +kernel)⟩
theorem we790 {c1 : Cond} : (.methodLink "RollingBallsModel" 81 ⟨"RollingBallsModel", "isNear", "(III)Z"⟩ : Cond) ∈ c1 :: gT := List.mem_cons_of_mem _ wd790
theorem wd792 : (.instanceMethod ⟨"RollingBallsModel", "isNear", "(III)Z"⟩ : Cond) ∈ gT := List.mem_filter.mpr ⟨List.mem_of_getElem? (i := 792) (by decide +kernel), (by decide +kernel)⟩
theorem we792 {c1 : Cond} : (.instanceMethod ⟨"RollingBallsModel", "isNear", "(III)Z"⟩ : Cond) ∈ c1 :: gT := List.mem_cons_of_mem _ wd792
theorem wd793 : (.code ⟨"RollingBallsModel", "isNear", "(III)Z"⟩ prog_8_method_14_code 4 (some .boolean) : Cond) ∈ gT := List.mem_filter.mpr ⟨List.mem_of_getElem? (i := 793) (by decide +kernel), (by decide +kernel)⟩
theorem we793 {c1 : Cond} : (.code ⟨"RollingBallsModel", "isNear", "(III)Z"⟩ prog_8_method_14_code 4 (some .boolean) : Cond) ∈ c1 :: gT := List.mem_cons_of_mem _ wd793
theorem wd794 : (.methodLink "RollingBallsModel" 74 ⟨"RollingBallsModel", "distance", "(III)I"⟩ : Cond) ∈ gT := List.mem_filter.mpr ⟨List.mem_of_getElem? (i := 794) (by decide +kernel), (by decide +kernel)⟩
theorem we794 {c1 : Cond} : (.methodLink "RollingBallsModel" 74 ⟨"RollingBallsModel", "distance", "(III)I"⟩ : Cond) ∈ c1 :: gT := List.mem_cons_of_mem _ wd794
theorem wd796 : (.instanceMethod ⟨"RollingBallsModel", "distance", "(III)I"⟩ : Cond) ∈ gT := List.mem_filter.mpr ⟨List.mem_of_getElem? (i := 796) (by decide +kernel), (by decide +kernel)⟩
theorem we796 {c1 : Cond} : (.instanceMethod ⟨"RollingBallsModel", "distance", "(III)I"⟩ : Cond) ∈ c1 :: gT := List.mem_cons_of_mem _ wd796
theorem wd797 : (.code ⟨"RollingBallsModel", "distance", "(III)I"⟩ prog_8_method_13_code 6 (some .int) : Cond) ∈ gT := List.mem_filter.mpr ⟨List.mem_of_getElem? (i := 797) (by decide +kernel), (by decide +kernel)⟩
theorem we797 {c1 : Cond} : (.code ⟨"RollingBallsModel", "distance", "(III)I"⟩ prog_8_method_13_code 6 (some .int) : Cond) ∈ c1 :: gT := List.mem_cons_of_mem _ wd797
theorem wd798 : (.methodLink "RollingBallsModel" 66 ⟨"RollingBallsModel", "compare", "(IIII)I"⟩ : Cond) ∈ gT := List.mem_filter.mpr ⟨List.mem_of_getElem? (i := 798) (by decide +kernel), (by decide +kernel)⟩
theorem we798 {c1 : Cond} : (.methodLink "RollingBallsModel" 66 ⟨"RollingBallsModel", "compare", "(IIII)I"⟩ : Cond) ∈ c1 :: gT := List.mem_cons_of_mem _ wd798
theorem wd799 : (.static ⟨"RollingBallsModel", "compare", "(IIII)I"⟩ : Cond) ∈ gT := List.mem_filter.mpr ⟨List.mem_of_getElem? (i := 799) (by decide +kernel), (by decide +kernel)⟩
theorem we799 {c1 : Cond} : (.static ⟨"RollingBallsModel", "compare", "(IIII)I"⟩ : Cond) ∈ c1 :: gT := List.mem_cons_of_mem _ wd799
theorem wd800 : (.code ⟨"RollingBallsModel", "compare", "(IIII)I"⟩ prog_8_method_11_code 8 (some .int) : Cond) ∈ gT := List.mem_filter.mpr ⟨List.mem_of_getElem? (i := 800) (by decide +kernel), (by decide +kernel)⟩
theorem we800 {c1 : Cond} : (.code ⟨"RollingBallsModel", "compare", "(IIII)I"⟩ prog_8_method_11_code 8 (some .int) : Cond) ∈ c1 :: gT := List.mem_cons_of_mem _ wd800
theorem wd801 : (.methodLink "RollingBallsModel" 100 ⟨"RollingBallsModel", "rootOf", "(I)I"⟩ : Cond) ∈ gT := List.mem_filter.mpr ⟨List.mem_of_getElem? (i := 801) (by decide +kernel), (by decide +kernel)⟩
theorem we801 {c1 : Cond} : (.methodLink "RollingBallsModel" 100 ⟨"RollingBallsModel", "rootOf", "(I)I"⟩ : Cond) ∈ c1 :: gT := List.mem_cons_of_mem _ wd801
theorem wd802 : (.static ⟨"RollingBallsModel", "rootOf", "(I)I"⟩ : Cond) ∈ gT := List.mem_filter.mpr ⟨List.mem_of_getElem? (i := 802) (by decide +kernel), (by decide +kernel)⟩
theorem we802 {c1 : Cond} : (.static ⟨"RollingBallsModel", "rootOf", "(I)I"⟩ : Cond) ∈ c1 :: gT := List.mem_cons_of_mem _ wd802
theorem wd803 : (.code ⟨"RollingBallsModel", "rootOf", "(I)I"⟩ prog_8_method_12_code 2 (some .int) : Cond) ∈ gT := List.mem_filter.mpr ⟨List.mem_of_getElem? (i := 803) (by decide +kernel), (by decide +kernel)⟩
theorem we803 {c1 : Cond} : (.code ⟨"RollingBallsModel", "rootOf", "(I)I"⟩ prog_8_method_12_code 2 (some .int) : Cond) ∈ c1 :: gT := List.mem_cons_of_mem _ wd803
theorem wd804 : (.methodLink "RollingBallsModel" 88 ⟨"RollingBallsModel", "isTouched", "(III)Z"⟩ : Cond) ∈ gT := List.mem_filter.mpr ⟨List.mem_of_getElem? (i := 804) (by decide +kernel), (by decide +kernel)⟩
theorem we804 {c1 : Cond} : (.methodLink "RollingBallsModel" 88 ⟨"RollingBallsModel", "isTouched", "(III)Z"⟩ : Cond) ∈ c1 :: gT := List.mem_cons_of_mem _ wd804
theorem wd806 : (.instanceMethod ⟨"RollingBallsModel", "isTouched", "(III)Z"⟩ : Cond) ∈ gT := List.mem_filter.mpr ⟨List.mem_of_getElem? (i := 806) (by decide +kernel), (by decide +kernel)⟩
theorem we806 {c1 : Cond} : (.instanceMethod ⟨"RollingBallsModel", "isTouched", "(III)Z"⟩ : Cond) ∈ c1 :: gT := List.mem_cons_of_mem _ wd806
theorem wd807 : (.code ⟨"RollingBallsModel", "isTouched", "(III)Z"⟩ prog_8_method_16_code 5 (some .boolean) : Cond) ∈ gT := List.mem_filter.mpr ⟨List.mem_of_getElem? (i := 807) (by decide +kernel), (by decide +kernel)⟩
theorem we807 {c1 : Cond} : (.code ⟨"RollingBallsModel", "isTouched", "(III)Z"⟩ prog_8_method_16_code 5 (some .boolean) : Cond) ∈ c1 :: gT := List.mem_cons_of_mem _ wd807
theorem wd808 : (.methodLink "RollingBallsLaw" 76 ⟨"RollingBallsModel", "touched", "(III)I"⟩ : Cond) ∈ gT := List.mem_filter.mpr ⟨List.mem_of_getElem? (i := 808) (by decide +kernel), (by decide +kernel)⟩
theorem we808 {c1 : Cond} : (.methodLink "RollingBallsLaw" 76 ⟨"RollingBallsModel", "touched", "(III)I"⟩ : Cond) ∈ c1 :: gT := List.mem_cons_of_mem _ wd808
theorem wd809 : (.instanceMethod ⟨"RollingBallsModel", "touched", "(III)I"⟩ : Cond) ∈ gT := List.mem_filter.mpr ⟨List.mem_of_getElem? (i := 809) (by decide +kernel), (by decide +kernel)⟩
theorem we809 {c1 : Cond} : (.instanceMethod ⟨"RollingBallsModel", "touched", "(III)I"⟩ : Cond) ∈ c1 :: gT := List.mem_cons_of_mem _ wd809
theorem wd810 : (.selects "RollingBallsModel" ⟨"RollingBallsModel", "touched", "(III)I"⟩ ⟨"RollingBallsModel", "touched", "(III)I"⟩ : Cond) ∈ gT := List.mem_filter.mpr ⟨List.mem_of_getElem? (i := 810) (by decide +kernel), (by decide +kernel)⟩
theorem we810 {c1 : Cond} : (.selects "RollingBallsModel" ⟨"RollingBallsModel", "touched", "(III)I"⟩ ⟨"RollingBallsModel", "touched", "(III)I"⟩ : Cond) ∈ c1 :: gT := List.mem_cons_of_mem _ wd810
theorem wd811 : (.code ⟨"RollingBallsModel", "touched", "(III)I"⟩ prog_8_method_22_code 6 (some .int) : Cond) ∈ gT := List.mem_filter.mpr ⟨List.mem_of_getElem? (i := 811) (by decide +kernel), (by decide +kernel)⟩
theorem we811 {c1 : Cond} : (.code ⟨"RollingBallsModel", "touched", "(III)I"⟩ prog_8_method_22_code 6 (some .int) : Cond) ∈ c1 :: gT := List.mem_cons_of_mem _ wd811
theorem wd812 : (.methodLink "RollingBallsLaw" 80 ⟨"RollingBallsModel", "higher", "(IIII)I"⟩ : Cond) ∈ gT := List.mem_filter.mpr ⟨List.mem_of_getElem? (i := 812) (by decide +kernel), (by decide +kernel)⟩
theorem we812 {c1 : Cond} : (.methodLink "RollingBallsLaw" 80 ⟨"RollingBallsModel", "higher", "(IIII)I"⟩ : Cond) ∈ c1 :: gT := List.mem_cons_of_mem _ wd812
theorem wd813 : (.instanceMethod ⟨"RollingBallsModel", "higher", "(IIII)I"⟩ : Cond) ∈ gT := List.mem_filter.mpr ⟨List.mem_of_getElem? (i := 813) (by decide +kernel), (by decide +kernel)⟩
theorem we813 {c1 : Cond} : (.instanceMethod ⟨"RollingBallsModel", "higher", "(IIII)I"⟩ : Cond) ∈ c1 :: gT := List.mem_cons_of_mem _ wd813
theorem wd814 : (.selects "RollingBallsModel" ⟨"RollingBallsModel", "higher", "(IIII)I"⟩ ⟨"RollingBallsModel", "higher", "(IIII)I"⟩ : Cond) ∈ gT := List.mem_filter.mpr ⟨List.mem_of_getElem? (i := 814) (by decide +kernel), (by decide +kernel)⟩
theorem we814 {c1 : Cond} : (.selects "RollingBallsModel" ⟨"RollingBallsModel", "higher", "(IIII)I"⟩ ⟨"RollingBallsModel", "higher", "(IIII)I"⟩ : Cond) ∈ c1 :: gT := List.mem_cons_of_mem _ wd814
theorem wd815 : (.code ⟨"RollingBallsModel", "higher", "(IIII)I"⟩ prog_8_method_23_code 7 (some .int) : Cond) ∈ gT := List.mem_filter.mpr ⟨List.mem_of_getElem? (i := 815) (by decide +kernel), (by decide +kernel)⟩
theorem we815 {c1 : Cond} : (.code ⟨"RollingBallsModel", "higher", "(IIII)I"⟩ prog_8_method_23_code 7 (some .int) : Cond) ∈ c1 :: gT := List.mem_cons_of_mem _ wd815
theorem wd816 : (.methodLink "RollingBallsLaw" 84 ⟨"RollingBallsModel", "tops", "()I"⟩ : Cond) ∈ gT := List.mem_filter.mpr ⟨List.mem_of_getElem? (i := 816) (by decide +kernel), (by decide +kernel)⟩
theorem we816 {c1 : Cond} : (.methodLink "RollingBallsLaw" 84 ⟨"RollingBallsModel", "tops", "()I"⟩ : Cond) ∈ c1 :: gT := List.mem_cons_of_mem _ wd816
theorem wd817 : (.instanceMethod ⟨"RollingBallsModel", "tops", "()I"⟩ : Cond) ∈ gT := List.mem_filter.mpr ⟨List.mem_of_getElem? (i := 817) (by decide +kernel), (by decide +kernel)⟩
theorem we817 {c1 : Cond} : (.instanceMethod ⟨"RollingBallsModel", "tops", "()I"⟩ : Cond) ∈ c1 :: gT := List.mem_cons_of_mem _ wd817
theorem wd818 : (.selects "RollingBallsModel" ⟨"RollingBallsModel", "tops", "()I"⟩ ⟨"RollingBallsModel", "tops", "()I"⟩ : Cond) ∈ gT := List.mem_filter.mpr ⟨List.mem_of_getElem? (i := 818) (by decide +kernel), (by decide +kernel)⟩
theorem we818 {c1 : Cond} : (.selects "RollingBallsModel" ⟨"RollingBallsModel", "tops", "()I"⟩ ⟨"RollingBallsModel", "tops", "()I"⟩ : Cond) ∈ c1 :: gT := List.mem_cons_of_mem _ wd818
theorem wd819 : (.code ⟨"RollingBallsModel", "tops", "()I"⟩ prog_8_method_24_code 5 (some .int) : Cond) ∈ gT := List.mem_filter.mpr ⟨List.mem_of_getElem? (i := 819) (by decide +kernel), (by decide +kernel)⟩
theorem we819 {c1 : Cond} : (.code ⟨"RollingBallsModel", "tops", "()I"⟩ prog_8_method_24_code 5 (some .int) : Cond) ∈ c1 :: gT := List.mem_cons_of_mem _ wd819
theorem wd820 : (.methodLink "RollingBallsModel" 104 ⟨"RollingBallsModel", "roll", "()V"⟩ : Cond) ∈ gT := List.mem_filter.mpr ⟨List.mem_of_getElem? (i := 820) (by decide +kernel), (by decide +kernel)⟩
theorem we820 {c1 : Cond} : (.methodLink "RollingBallsModel" 104 ⟨"RollingBallsModel", "roll", "()V"⟩ : Cond) ∈ c1 :: gT := List.mem_cons_of_mem _ wd820
theorem wd822 : (.instanceMethod ⟨"RollingBallsModel", "roll", "()V"⟩ : Cond) ∈ gT := List.mem_filter.mpr ⟨List.mem_of_getElem? (i := 822) (by decide +kernel), (by decide +kernel)⟩
theorem we822 {c1 : Cond} : (.instanceMethod ⟨"RollingBallsModel", "roll", "()V"⟩ : Cond) ∈ c1 :: gT := List.mem_cons_of_mem _ wd822
theorem wd823 : (.code ⟨"RollingBallsModel", "roll", "()V"⟩ prog_8_method_18_code 4 none : Cond) ∈ gT := List.mem_filter.mpr ⟨List.mem_of_getElem? (i := 823) (by decide +kernel), (by decide +kernel)⟩
theorem we823 {c1 : Cond} : (.code ⟨"RollingBallsModel", "roll", "()V"⟩ prog_8_method_18_code 4 none : Cond) ∈ c1 :: gT := List.mem_cons_of_mem _ wd823
theorem wd824 : (.methodLink "RollingBallsModel" 107 ⟨"RollingBallsModel", "places", "()I"⟩ : Cond) ∈ gT := List.mem_filter.mpr ⟨List.mem_of_getElem? (i := 824) (by decide +kernel), (by decide +kernel)⟩
theorem we824 {c1 : Cond} : (.methodLink "RollingBallsModel" 107 ⟨"RollingBallsModel", "places", "()I"⟩ : Cond) ∈ c1 :: gT := List.mem_cons_of_mem _ wd824
theorem wd826 : (.instanceMethod ⟨"RollingBallsModel", "places", "()I"⟩ : Cond) ∈ gT := List.mem_filter.mpr ⟨List.mem_of_getElem? (i := 826) (by decide +kernel), (by decide +kernel)⟩
theorem we826 {c1 : Cond} : (.instanceMethod ⟨"RollingBallsModel", "places", "()I"⟩ : Cond) ∈ c1 :: gT := List.mem_cons_of_mem _ wd826
theorem wd827 : (.code ⟨"RollingBallsModel", "places", "()I"⟩ prog_8_method_9_code 1 (some .int) : Cond) ∈ gT := List.mem_filter.mpr ⟨List.mem_of_getElem? (i := 827) (by decide +kernel), (by decide +kernel)⟩
theorem we827 {c1 : Cond} : (.code ⟨"RollingBallsModel", "places", "()I"⟩ prog_8_method_9_code 1 (some .int) : Cond) ∈ c1 :: gT := List.mem_cons_of_mem _ wd827
theorem wd828 : (.methodLink "RollingBallsLaw" 88 ⟨"RollingBallsModel", "hits", "(II)I"⟩ : Cond) ∈ gT := List.mem_filter.mpr ⟨List.mem_of_getElem? (i := 828) (by decide +kernel), (by decide +kernel)⟩
theorem we828 {c1 : Cond} : (.methodLink "RollingBallsLaw" 88 ⟨"RollingBallsModel", "hits", "(II)I"⟩ : Cond) ∈ c1 :: gT := List.mem_cons_of_mem _ wd828
theorem wd829 : (.instanceMethod ⟨"RollingBallsModel", "hits", "(II)I"⟩ : Cond) ∈ gT := List.mem_filter.mpr ⟨List.mem_of_getElem? (i := 829) (by decide +kernel), (by decide +kernel)⟩
theorem we829 {c1 : Cond} : (.instanceMethod ⟨"RollingBallsModel", "hits", "(II)I"⟩ : Cond) ∈ c1 :: gT := List.mem_cons_of_mem _ wd829
theorem wd830 : (.selects "RollingBallsModel" ⟨"RollingBallsModel", "hits", "(II)I"⟩ ⟨"RollingBallsModel", "hits", "(II)I"⟩ : Cond) ∈ gT := List.mem_filter.mpr ⟨List.mem_of_getElem? (i := 830) (by decide +kernel), (by decide +kernel)⟩
theorem we830 {c1 : Cond} : (.selects "RollingBallsModel" ⟨"RollingBallsModel", "hits", "(II)I"⟩ ⟨"RollingBallsModel", "hits", "(II)I"⟩ : Cond) ∈ c1 :: gT := List.mem_cons_of_mem _ wd830
theorem wd831 : (.code ⟨"RollingBallsModel", "hits", "(II)I"⟩ prog_8_method_25_code 3 (some .int) : Cond) ∈ gT := List.mem_filter.mpr ⟨List.mem_of_getElem? (i := 831) (by decide +kernel), (by decide +kernel)⟩
theorem we831 {c1 : Cond} : (.code ⟨"RollingBallsModel", "hits", "(II)I"⟩ prog_8_method_25_code 3 (some .int) : Cond) ∈ c1 :: gT := List.mem_cons_of_mem _ wd831
theorem wd832 : (.methodLink "RollingBallsLaw" 92 ⟨"RollingBallsModel", "safe", "(I)I"⟩ : Cond) ∈ gT := List.mem_filter.mpr ⟨List.mem_of_getElem? (i := 832) (by decide +kernel), (by decide +kernel)⟩
theorem we832 {c1 : Cond} : (.methodLink "RollingBallsLaw" 92 ⟨"RollingBallsModel", "safe", "(I)I"⟩ : Cond) ∈ c1 :: gT := List.mem_cons_of_mem _ wd832
theorem wd833 : (.instanceMethod ⟨"RollingBallsModel", "safe", "(I)I"⟩ : Cond) ∈ gT := List.mem_filter.mpr ⟨List.mem_of_getElem? (i := 833) (by decide +kernel), (by decide +kernel)⟩
theorem we833 {c1 : Cond} : (.instanceMethod ⟨"RollingBallsModel", "safe", "(I)I"⟩ : Cond) ∈ c1 :: gT := List.mem_cons_of_mem _ wd833
theorem wd834 : (.selects "RollingBallsModel" ⟨"RollingBallsModel", "safe", "(I)I"⟩ ⟨"RollingBallsModel", "safe", "(I)I"⟩ : Cond) ∈ gT := List.mem_filter.mpr ⟨List.mem_of_getElem? (i := 834) (by decide +kernel), (by decide +kernel)⟩
theorem we834 {c1 : Cond} : (.selects "RollingBallsModel" ⟨"RollingBallsModel", "safe", "(I)I"⟩ ⟨"RollingBallsModel", "safe", "(I)I"⟩ : Cond) ∈ c1 :: gT := List.mem_cons_of_mem _ wd834
theorem wd835 : (.code ⟨"RollingBallsModel", "safe", "(I)I"⟩ prog_8_method_27_code 4 (some .int) : Cond) ∈ gT := List.mem_filter.mpr ⟨List.mem_of_getElem? (i := 835) (by decide +kernel), (by decide +kernel)⟩
theorem we835 {c1 : Cond} : (.code ⟨"RollingBallsModel", "safe", "(I)I"⟩ prog_8_method_27_code 4 (some .int) : Cond) ∈ c1 :: gT := List.mem_cons_of_mem _ wd835
theorem wd836 : (.methodLink "RollingBallsModel" 110 ⟨"RollingBallsModel", "isSafe", "(I)Z"⟩ : Cond) ∈ gT := List.mem_filter.mpr ⟨List.mem_of_getElem? (i := 836) (by decide +kernel), (by decide +kernel)⟩
theorem we836 {c1 : Cond} : (.methodLink "RollingBallsModel" 110 ⟨"RollingBallsModel", "isSafe", "(I)Z"⟩ : Cond) ∈ c1 :: gT := List.mem_cons_of_mem _ wd836
theorem wd838 : (.instanceMethod ⟨"RollingBallsModel", "isSafe", "(I)Z"⟩ : Cond) ∈ gT := List.mem_filter.mpr ⟨List.mem_of_getElem? (i := 838) (by decide +kernel), (by decide +kernel)⟩
theorem we838 {c1 : Cond} : (.instanceMethod ⟨"RollingBallsModel", "isSafe", "(I)Z"⟩ : Cond) ∈ c1 :: gT := List.mem_cons_of_mem _ wd838
theorem wd839 : (.code ⟨"RollingBallsModel", "isSafe", "(I)Z"⟩ prog_8_method_26_code 2 (some .boolean) : Cond) ∈ gT := List.mem_filter.mpr ⟨List.mem_of_getElem? (i := 839) (by decide +kernel), (by decide +kernel)⟩
theorem we839 {c1 : Cond} : (.code ⟨"RollingBallsModel", "isSafe", "(I)Z"⟩ prog_8_method_26_code 2 (some .boolean) : Cond) ∈ c1 :: gT := List.mem_cons_of_mem _ wd839
theorem wd840 : (.methodLink "RollingBallsLaw" 95 ⟨"RollingBallsModel", "cover", "(II)I"⟩ : Cond) ∈ gT := List.mem_filter.mpr ⟨List.mem_of_getElem? (i := 840) (by decide +kernel), (by decide +kernel)⟩
theorem we840 {c1 : Cond} : (.methodLink "RollingBallsLaw" 95 ⟨"RollingBallsModel", "cover", "(II)I"⟩ : Cond) ∈ c1 :: gT := List.mem_cons_of_mem _ wd840
theorem wd841 : (.instanceMethod ⟨"RollingBallsModel", "cover", "(II)I"⟩ : Cond) ∈ gT := List.mem_filter.mpr ⟨List.mem_of_getElem? (i := 841) (by decide +kernel), (by decide +kernel)⟩
theorem we841 {c1 : Cond} : (.instanceMethod ⟨"RollingBallsModel", "cover", "(II)I"⟩ : Cond) ∈ c1 :: gT := List.mem_cons_of_mem _ wd841
theorem wd842 : (.selects "RollingBallsModel" ⟨"RollingBallsModel", "cover", "(II)I"⟩ ⟨"RollingBallsModel", "cover", "(II)I"⟩ : Cond) ∈ gT := List.mem_filter.mpr ⟨List.mem_of_getElem? (i := 842) (by decide +kernel), (by decide +kernel)⟩
theorem we842 {c1 : Cond} : (.selects "RollingBallsModel" ⟨"RollingBallsModel", "cover", "(II)I"⟩ ⟨"RollingBallsModel", "cover", "(II)I"⟩ : Cond) ∈ c1 :: gT := List.mem_cons_of_mem _ wd842
theorem wd843 : (.code ⟨"RollingBallsModel", "cover", "(II)I"⟩ prog_8_method_28_code 10 (some .int) : Cond) ∈ gT := List.mem_filter.mpr ⟨List.mem_of_getElem? (i := 843) (by decide +kernel), (by decide +kernel)⟩
theorem we843 {c1 : Cond} : (.code ⟨"RollingBallsModel", "cover", "(II)I"⟩ prog_8_method_28_code 10 (some .int) : Cond) ∈ c1 :: gT := List.mem_cons_of_mem _ wd843
theorem wd844 : (.methodLink "RollingBallsLaw" 98 ⟨"RollingBallsModel", "may", "(III)I"⟩ : Cond) ∈ gT := List.mem_filter.mpr ⟨List.mem_of_getElem? (i := 844) (by decide +kernel), (by decide +kernel)⟩
theorem we844 {c1 : Cond} : (.methodLink "RollingBallsLaw" 98 ⟨"RollingBallsModel", "may", "(III)I"⟩ : Cond) ∈ c1 :: gT := List.mem_cons_of_mem _ wd844
theorem wd845 : (.instanceMethod ⟨"RollingBallsModel", "may", "(III)I"⟩ : Cond) ∈ gT := List.mem_filter.mpr ⟨List.mem_of_getElem? (i := 845) (by decide +kernel), (by decide +kernel)⟩
theorem we845 {c1 : Cond} : (.instanceMethod ⟨"RollingBallsModel", "may", "(III)I"⟩ : Cond) ∈ c1 :: gT := List.mem_cons_of_mem _ wd845
theorem wd846 : (.selects "RollingBallsModel" ⟨"RollingBallsModel", "may", "(III)I"⟩ ⟨"RollingBallsModel", "may", "(III)I"⟩ : Cond) ∈ gT := List.mem_filter.mpr ⟨List.mem_of_getElem? (i := 846) (by decide +kernel), (by decide +kernel)⟩
theorem we846 {c1 : Cond} : (.selects "RollingBallsModel" ⟨"RollingBallsModel", "may", "(III)I"⟩ ⟨"RollingBallsModel", "may", "(III)I"⟩ : Cond) ∈ c1 :: gT := List.mem_cons_of_mem _ wd846
theorem wd847 : (.code ⟨"RollingBallsModel", "may", "(III)I"⟩ prog_8_method_29_code 4 (some .int) : Cond) ∈ gT := List.mem_filter.mpr ⟨List.mem_of_getElem? (i := 847) (by decide +kernel), (by decide +kernel)⟩
theorem we847 {c1 : Cond} : (.code ⟨"RollingBallsModel", "may", "(III)I"⟩ prog_8_method_29_code 4 (some .int) : Cond) ∈ c1 :: gT := List.mem_cons_of_mem _ wd847
theorem wd848 : (.methodLink "RollingBallsLaw" 102 ⟨"RollingBallsModel", "forget", "()I"⟩ : Cond) ∈ gT := List.mem_filter.mpr ⟨List.mem_of_getElem? (i := 848) (by decide +kernel), (by decide +kernel)⟩
theorem we848 {c1 : Cond} : (.methodLink "RollingBallsLaw" 102 ⟨"RollingBallsModel", "forget", "()I"⟩ : Cond) ∈ c1 :: gT := List.mem_cons_of_mem _ wd848
theorem wd849 : (.instanceMethod ⟨"RollingBallsModel", "forget", "()I"⟩ : Cond) ∈ gT := List.mem_filter.mpr ⟨List.mem_of_getElem? (i := 849) (by decide +kernel), (by decide +kernel)⟩
theorem we849 {c1 : Cond} : (.instanceMethod ⟨"RollingBallsModel", "forget", "()I"⟩ : Cond) ∈ c1 :: gT := List.mem_cons_of_mem _ wd849
theorem wd850 : (.selects "RollingBallsModel" ⟨"RollingBallsModel", "forget", "()I"⟩ ⟨"RollingBallsModel", "forget", "()I"⟩ : Cond) ∈ gT := List.mem_filter.mpr ⟨List.mem_of_getElem? (i := 850) (by decide +kernel), (by decide +kernel)⟩
theorem we850 {c1 : Cond} : (.selects "RollingBallsModel" ⟨"RollingBallsModel", "forget", "()I"⟩ ⟨"RollingBallsModel", "forget", "()I"⟩ : Cond) ∈ c1 :: gT := List.mem_cons_of_mem _ wd850
theorem wd851 : (.code ⟨"RollingBallsModel", "forget", "()I"⟩ prog_8_method_30_code 2 (some .int) : Cond) ∈ gT := List.mem_filter.mpr ⟨List.mem_of_getElem? (i := 851) (by decide +kernel), (by decide +kernel)⟩
theorem we851 {c1 : Cond} : (.code ⟨"RollingBallsModel", "forget", "()I"⟩ prog_8_method_30_code 2 (some .int) : Cond) ∈ c1 :: gT := List.mem_cons_of_mem _ wd851
theorem wd852 : (.methodLink "RollingBallsLaw" 106 ⟨"RollingBallsModel", "want", "(IIZ)Z"⟩ : Cond) ∈ gT := List.mem_filter.mpr ⟨List.mem_of_getElem? (i := 852) (by decide +kernel), (by decide +kernel)⟩
theorem we852 {c1 : Cond} : (.methodLink "RollingBallsLaw" 106 ⟨"RollingBallsModel", "want", "(IIZ)Z"⟩ : Cond) ∈ c1 :: gT := List.mem_cons_of_mem _ wd852
theorem wd853 : (.instanceMethod ⟨"RollingBallsModel", "want", "(IIZ)Z"⟩ : Cond) ∈ gT := List.mem_filter.mpr ⟨List.mem_of_getElem? (i := 853) (by decide +kernel), (by decide +kernel)⟩
theorem we853 {c1 : Cond} : (.instanceMethod ⟨"RollingBallsModel", "want", "(IIZ)Z"⟩ : Cond) ∈ c1 :: gT := List.mem_cons_of_mem _ wd853
theorem wd854 : (.selects "RollingBallsModel" ⟨"RollingBallsModel", "want", "(IIZ)Z"⟩ ⟨"RollingBallsModel", "want", "(IIZ)Z"⟩ : Cond) ∈ gT := List.mem_filter.mpr ⟨List.mem_of_getElem? (i := 854) (by decide +kernel), (by decide +kernel)⟩
theorem we854 {c1 : Cond} : (.selects "RollingBallsModel" ⟨"RollingBallsModel", "want", "(IIZ)Z"⟩ ⟨"RollingBallsModel", "want", "(IIZ)Z"⟩ : Cond) ∈ c1 :: gT := List.mem_cons_of_mem _ wd854
theorem wd855 : (.code ⟨"RollingBallsModel", "want", "(IIZ)Z"⟩ prog_8_method_31_code 5 (some .boolean) : Cond) ∈ gT := List.mem_filter.mpr ⟨List.mem_of_getElem? (i := 855) (by decide +kernel), (by decide +kernel)⟩
theorem we855 {c1 : Cond} : (.code ⟨"RollingBallsModel", "want", "(IIZ)Z"⟩ prog_8_method_31_code 5 (some .boolean) : Cond) ∈ c1 :: gT := List.mem_cons_of_mem _ wd855
theorem wd856 : (.methodLink "RollingBallsLaw" 110 ⟨"RollingBallsModel", "choose", "()I"⟩ : Cond) ∈ gT := List.mem_filter.mpr ⟨List.mem_of_getElem? (i := 856) (by decide +kernel), (by decide +kernel)⟩
theorem we856 {c1 : Cond} : (.methodLink "RollingBallsLaw" 110 ⟨"RollingBallsModel", "choose", "()I"⟩ : Cond) ∈ c1 :: gT := List.mem_cons_of_mem _ wd856
theorem wd857 : (.instanceMethod ⟨"RollingBallsModel", "choose", "()I"⟩ : Cond) ∈ gT := List.mem_filter.mpr ⟨List.mem_of_getElem? (i := 857) (by decide +kernel), (by decide +kernel)⟩
theorem we857 {c1 : Cond} : (.instanceMethod ⟨"RollingBallsModel", "choose", "()I"⟩ : Cond) ∈ c1 :: gT := List.mem_cons_of_mem _ wd857
theorem wd858 : (.selects "RollingBallsModel" ⟨"RollingBallsModel", "choose", "()I"⟩ ⟨"RollingBallsModel", "choose", "()I"⟩ : Cond) ∈ gT := List.mem_filter.mpr ⟨List.mem_of_getElem? (i := 858) (by decide +kernel), (by decide +kernel)⟩
theorem we858 {c1 : Cond} : (.selects "RollingBallsModel" ⟨"RollingBallsModel", "choose", "()I"⟩ ⟨"RollingBallsModel", "choose", "()I"⟩ : Cond) ∈ c1 :: gT := List.mem_cons_of_mem _ wd858
theorem wd859 : (.code ⟨"RollingBallsModel", "choose", "()I"⟩ prog_8_method_35_code 4 (some .int) : Cond) ∈ gT := List.mem_filter.mpr ⟨List.mem_of_getElem? (i := 859) (by decide +kernel), (by decide +kernel)⟩
theorem we859 {c1 : Cond} : (.code ⟨"RollingBallsModel", "choose", "()I"⟩ prog_8_method_35_code 4 (some .int) : Cond) ∈ c1 :: gT := List.mem_cons_of_mem _ wd859
theorem wd860 : (.methodLink "RollingBallsModel" 117 ⟨"RollingBallsModel", "manyOf", "(I)I"⟩ : Cond) ∈ gT := List.mem_filter.mpr ⟨List.mem_of_getElem? (i := 860) (by decide +kernel), (by decide +kernel)⟩
theorem we860 {c1 : Cond} : (.methodLink "RollingBallsModel" 117 ⟨"RollingBallsModel", "manyOf", "(I)I"⟩ : Cond) ∈ c1 :: gT := List.mem_cons_of_mem _ wd860
theorem wd862 : (.instanceMethod ⟨"RollingBallsModel", "manyOf", "(I)I"⟩ : Cond) ∈ gT := List.mem_filter.mpr ⟨List.mem_of_getElem? (i := 862) (by decide +kernel), (by decide +kernel)⟩
theorem we862 {c1 : Cond} : (.instanceMethod ⟨"RollingBallsModel", "manyOf", "(I)I"⟩ : Cond) ∈ c1 :: gT := List.mem_cons_of_mem _ wd862
theorem wd863 : (.code ⟨"RollingBallsModel", "manyOf", "(I)I"⟩ prog_8_method_33_code 2 (some .int) : Cond) ∈ gT := List.mem_filter.mpr ⟨List.mem_of_getElem? (i := 863) (by decide +kernel), (by decide +kernel)⟩
theorem we863 {c1 : Cond} : (.code ⟨"RollingBallsModel", "manyOf", "(I)I"⟩ prog_8_method_33_code 2 (some .int) : Cond) ∈ c1 :: gT := List.mem_cons_of_mem _ wd863
theorem wd864 : (.methodLink "RollingBallsModel" 120 ⟨"RollingBallsModel", "lengthOf", "(I)I"⟩ : Cond) ∈ gT := List.mem_filter.mpr ⟨List.mem_of_getElem? (i := 864) (by decide +kernel), (by decide +kernel)⟩
theorem we864 {c1 : Cond} : (.methodLink "RollingBallsModel" 120 ⟨"RollingBallsModel", "lengthOf", "(I)I"⟩ : Cond) ∈ c1 :: gT := List.mem_cons_of_mem _ wd864
theorem wd866 : (.instanceMethod ⟨"RollingBallsModel", "lengthOf", "(I)I"⟩ : Cond) ∈ gT := List.mem_filter.mpr ⟨List.mem_of_getElem? (i := 866) (by decide +kernel), (by decide +kernel)⟩
theorem we866 {c1 : Cond} : (.instanceMethod ⟨"RollingBallsModel", "lengthOf", "(I)I"⟩ : Cond) ∈ c1 :: gT := List.mem_cons_of_mem _ wd866
theorem wd867 : (.code ⟨"RollingBallsModel", "lengthOf", "(I)I"⟩ prog_8_method_34_code 4 (some .int) : Cond) ∈ gT := List.mem_filter.mpr ⟨List.mem_of_getElem? (i := 867) (by decide +kernel), (by decide +kernel)⟩
theorem we867 {c1 : Cond} : (.code ⟨"RollingBallsModel", "lengthOf", "(I)I"⟩ prog_8_method_34_code 4 (some .int) : Cond) ∈ c1 :: gT := List.mem_cons_of_mem _ wd867
theorem wd868 : (.methodLink "RollingBallsModel" 123 ⟨"RollingBallsModel", "does", "(I)Z"⟩ : Cond) ∈ gT := List.mem_filter.mpr ⟨List.mem_of_getElem? (i := 868) (by decide +kernel), (by decide +kernel)⟩
theorem we868 {c1 : Cond} : (.methodLink "RollingBallsModel" 123 ⟨"RollingBallsModel", "does", "(I)Z"⟩ : Cond) ∈ c1 :: gT := List.mem_cons_of_mem _ wd868
theorem wd870 : (.instanceMethod ⟨"RollingBallsModel", "does", "(I)Z"⟩ : Cond) ∈ gT := List.mem_filter.mpr ⟨List.mem_of_getElem? (i := 870) (by decide +kernel), (by decide +kernel)⟩
theorem we870 {c1 : Cond} : (.instanceMethod ⟨"RollingBallsModel", "does", "(I)Z"⟩ : Cond) ∈ c1 :: gT := List.mem_cons_of_mem _ wd870
theorem wd871 : (.code ⟨"RollingBallsModel", "does", "(I)Z"⟩ prog_8_method_32_code 4 (some .boolean) : Cond) ∈ gT := List.mem_filter.mpr ⟨List.mem_of_getElem? (i := 871) (by decide +kernel), (by decide +kernel)⟩
theorem we871 {c1 : Cond} : (.code ⟨"RollingBallsModel", "does", "(I)Z"⟩ prog_8_method_32_code 4 (some .boolean) : Cond) ∈ c1 :: gT := List.mem_cons_of_mem _ wd871
theorem wd872 : (.methodLink "RollingBallsLaw" 114 ⟨"RollingBallsModel", "put", "(I)I"⟩ : Cond) ∈ gT := List.mem_filter.mpr ⟨List.mem_of_getElem? (i := 872) (by decide +kernel), (by decide +kernel)⟩
theorem we872 {c1 : Cond} : (.methodLink "RollingBallsLaw" 114 ⟨"RollingBallsModel", "put", "(I)I"⟩ : Cond) ∈ c1 :: gT := List.mem_cons_of_mem _ wd872
theorem wd873 : (.instanceMethod ⟨"RollingBallsModel", "put", "(I)I"⟩ : Cond) ∈ gT := List.mem_filter.mpr ⟨List.mem_of_getElem? (i := 873) (by decide +kernel), (by decide +kernel)⟩
theorem we873 {c1 : Cond} : (.instanceMethod ⟨"RollingBallsModel", "put", "(I)I"⟩ : Cond) ∈ c1 :: gT := List.mem_cons_of_mem _ wd873
theorem wd874 : (.selects "RollingBallsModel" ⟨"RollingBallsModel", "put", "(I)I"⟩ ⟨"RollingBallsModel", "put", "(I)I"⟩ : Cond) ∈ gT := List.mem_filter.mpr ⟨List.mem_of_getElem? (i := 874) (by decide +kernel), (by decide +kernel)⟩
theorem we874 {c1 : Cond} : (.selects "RollingBallsModel" ⟨"RollingBallsModel", "put", "(I)I"⟩ ⟨"RollingBallsModel", "put", "(I)I"⟩ : Cond) ∈ c1 :: gT := List.mem_cons_of_mem _ wd874
theorem wd875 : (.code ⟨"RollingBallsModel", "put", "(I)I"⟩ prog_8_method_36_code 4 (some .int) : Cond) ∈ gT := List.mem_filter.mpr ⟨List.mem_of_getElem? (i := 875) (by decide +kernel), (by decide +kernel)⟩
theorem we875 {c1 : Cond} : (.code ⟨"RollingBallsModel", "put", "(I)I"⟩ prog_8_method_36_code 4 (some .int) : Cond) ∈ c1 :: gT := List.mem_cons_of_mem _ wd875
theorem wd876 : (.arrayClass .long : Cond) ∈ gT := List.mem_filter.mpr ⟨List.mem_of_getElem? (i := 876) (by decide +kernel), (by decide +kernel)⟩
theorem we876 {c1 : Cond} : (.arrayClass .long : Cond) ∈ c1 :: gT := List.mem_cons_of_mem _ wd876
end
section
/-! An Int32 by an integer: 'iZ z'; arrays hold integers by integers ('aI'); TT: the machine at a place of a method, its locals, stack and world as lists; a row of TT an instruction. -/
def iZ (z : Int) : Int32 := Int32.ofInt z
abbrev ir (z : Int) : Prop := -2147483648 ≤ z ∧ z < 2147483648
theorem iZ_add (a b : Int) : iZ a + iZ b = iZ (a + b) := (Int32.ofInt_add a b).symm
theorem iZ_sub (a b : Int) : iZ a - iZ b = iZ (a - b) := (Int32.ofInt_sub a b).symm
theorem iZ_mul (a b : Int) : iZ a * iZ b = iZ (a * b) := (Int32.ofInt_mul a b).symm
theorem iZ_neg (a : Int) : -iZ a = iZ (-a) := (Int32.ofInt_neg a).symm
theorem iZ_inc (a n : Int) : iZ a + Int32.ofInt n = iZ (a + n) := iZ_add a n
theorem iZ_toInt {z : Int} (h : ir z) : (iZ z).toInt = z := Int32.toInt_ofInt_of_le (by have := h.1; omega) (by have := h.2; omega)
theorem iZ_of (x : Int32) : iZ x.toInt = x := Int32.ofInt_toInt x
theorem iZ_ir (x : Int32) : ir x.toInt := ⟨by have := x.le_toInt; omega, by have := x.toInt_lt; omega⟩
theorem iZ_nat (n : Nat) : iZ (n : Int) = nI n := Int32.ofInt_eq_ofNat
theorem iZ_0 : iZ 0 = 0 := by decide
theorem iZ_1 : iZ 1 = 1 := by decide
theorem iZ_le {a b : Int} (ha : ir a) (hb : ir b) : iZ a ≤ iZ b ↔ a ≤ b := by rw [Int32.le_iff_toInt_le, iZ_toInt ha, iZ_toInt hb]
theorem iZ_lt {a b : Int} (ha : ir a) (hb : ir b) : iZ a < iZ b ↔ a < b := by rw [Int32.lt_iff_toInt_lt, iZ_toInt ha, iZ_toInt hb]
theorem iZ_eq {a b : Int} (ha : ir a) (hb : ir b) : iZ a = iZ b ↔ a = b := by rw [← Int32.toInt_inj, iZ_toInt ha, iZ_toInt hb]
theorem iZ_eq0 {a : Int} (ha : ir a) : iZ a = 0 ↔ a = 0 := by rw [← iZ_0]; exact iZ_eq ha (by decide)
theorem iZ_lt0 {a : Int} (ha : ir a) : iZ a < 0 ↔ a < 0 := by rw [← iZ_0]; exact iZ_lt ha (by decide)
theorem iZ_gt0 {a : Int} (ha : ir a) : 0 < iZ a ↔ 0 < a := by rw [← iZ_0]; exact iZ_lt (by decide) ha
theorem iZ_le0 {a : Int} (ha : ir a) : iZ a ≤ 0 ↔ a ≤ 0 := by rw [← iZ_0]; exact iZ_le ha (by decide)
theorem iZ_ge0 {a : Int} (ha : ir a) : 0 ≤ iZ a ↔ 0 ≤ a := by rw [← iZ_0]; exact iZ_le (by decide) ha
theorem iZ_cl {z : Int} (h0 : 0 ≤ z) (h1 : z < 2147483648) : (iZ z).toNatClampNeg = z.toNat := by
  show (iZ z).toInt.toNat = z.toNat
  rw [iZ_toInt ⟨by omega, h1⟩]
theorem iZ_clz {z : Int} (h0 : 0 ≤ z) (h1 : z < 2147483648) : (((iZ z).toNatClampNeg : Nat) : Int) = z := by
  rw [iZ_cl h0 h1]
  exact Int.toNat_of_nonneg h0
theorem iZ_in {z n : Int} (h0 : 0 ≤ z) (h1 : z < n) (hn : n < 2147483648) : vp_in (iZ z) n.toNat := by
  rw [vp_in_iff, iZ_toInt ⟨by omega, by omega⟩]
  exact ⟨h0, by omega⟩
/-- contents, stored into -/
def zu {α : Type} (f : Int → α) (k : Int) (v : α) : Int → α := fun j => if j = k then v else f j
theorem zu_s {α : Type} (f : Int → α) (k : Int) (v : α) : zu f k v k = v := by simp [zu]
theorem zu_n {α : Type} (f : Int → α) {k j : Int} (v : α) (h : j ≠ k) : zu f k v j = f j := by simp [zu, h]
theorem zu_upd (f : Int → Int) {z : Int} (v : Int) (h0 : 0 ≤ z) (h1 : z < 2147483648) : upd (fun j : Nat => iZ (f (j : Int))) (iZ z).toNatClampNeg (iZ v) = fun j : Nat => iZ (zu f z v (j : Int)) := by
  funext j
  have e := iZ_clz h0 h1
  by_cases h : j = (iZ z).toNatClampNeg
  · simp only [upd, zu, h, if_true, e]
  · have h2 : ¬ (j : Int) = z := fun q => h (by omega)
    simp only [upd, zu, h, h2, if_false]
/-- an array of ints (or of booleans: 0, 1) -/
def aI (cA : ClassId) (n : Int) (f : Int → Int) : va_E := .inl (cA, n.toNat, .inl (fun j => iZ (f (j : Int))))
/-- an array of longs -/
def jZ (z : Int) : Int64 := Int64.ofInt z
def aJ (cA : ClassId) (n : Int) (f : Int → Int) : va_E := .inl (cA, n.toNat, .inr (.inl (fun j => jZ (f (j : Int)))))
theorem zu_updL (f : Int → Int) {z : Int} (v : Int) (h0 : 0 ≤ z) (h1 : z < 2147483648) : vp_updL (fun j : Nat => jZ (f (j : Int))) (iZ z).toNatClampNeg (jZ v) = fun j : Nat => jZ (zu f z v (j : Int)) := by
  funext j
  have e := iZ_clz h0 h1
  by_cases h : j = (iZ z).toNatClampNeg
  · simp only [vp_updL, zu, h, if_true, e]
  · have h2 : ¬ (j : Int) = z := fun q => h (by omega)
    simp only [vp_updL, zu, h, h2, if_false]
theorem iZ_narZ {z : Int} (h : z = 0 ∨ z = 1) : vp_nar .boolean (iZ z) = iZ z := by rcases h with rfl | rfl <;> decide
theorem iZ_narrowZ {z : Int} (h : z = 0 ∨ z = 1) : narrow .boolean (.int (iZ z)) = .int (iZ z) := by rcases h with rfl | rfl <;> decide
def zand (a b : Int) : Int := (iZ a &&& iZ b).toInt
def zor (a b : Int) : Int := (iZ a ||| iZ b).toInt
def zxor (a b : Int) : Int := (iZ a ^^^ iZ b).toInt
def zshl (a b : Int) : Int := (iZ a <<< (iZ b &&& 31)).toInt
def zshr (a b : Int) : Int := (iZ a >>> (iZ b &&& 31)).toInt
def zushr (a b : Int) : Int := ((iZ a).toUInt32 >>> ((iZ b).toUInt32 &&& Int32.toUInt32 31)).toInt32.toInt
/-- the array classes that all worlds know -/
def zT (cI cZ cJ : ClassId) : List (ClassId × FieldType) := [(cI, .int), (cZ, .boolean), (cJ, .long)]
/-- static arrays of ints that nobody writes -/
abbrev zS : Type := String × String × String × Nat × Nat × (Nat → Value)
def SF (SL : List zS) (A : Nat → Prop) (U : State) (H : Heap) : Prop := ∀ (k : Nat) (q : zS), SL[k]? = some q → va_Z q.1 q.2.1 q.2.2.1 (.ref q.2.2.2.1) A U H ∧ va_T .int q.2.2.2.1 q.2.2.2.2.1 q.2.2.2.2.2 A U H
theorem SF.go {SL : List zS} {A B : Nat → Prop} {s U : State} {H H1 : Heap} (h : SF SL A s H) (hvm : s.vm.Alike U.vm) (hq : ∀ a : Nat, a < H.size → ¬ A a → H1[a]? = H[a]?) (hAB : ∀ q, B q → A q) : SF SL B U H1 :=
  fun k q hk => ⟨(((h k q hk).1.kept hq).narrow hAB).moved hvm, (((h k q hk).2.kept hq).narrow hAB).moved hvm⟩
section TTR
variable {p : Program} {l : Launch} {e : Env} {R : Room} {s : State} {m : MethodId} {args : Array Value} {below : List Frame} {meth : Method} {c : Code} {cells slots : Nat} {Q : State → Prop}
variable {cc : ByteArray} {nL pc : Nat} {ret : Option FieldType} {Ts : List Cond} {own : String} {D : va_G} {cl : List vw_C} {cI cZ cJ : ClassId} {SL : List zS} {A : Nat → Prop} {ro : Prop} {lv : List (Nat × Value)} {st : List Value} {ws : va_W}
/-- the machine at pc with these locals, this stack, this world -/
def TT (p : Program) (l : Launch) (e : Env) (R : Room) (s : State) (m : MethodId) (args : Array Value) (below : List Frame) (meth : Method) (c : Code) (D : va_G) (cl : List vw_C) (A : Nat → Prop) (nL : Nat) (ro : Prop) (Q : State → Prop) (pc : Nat) (lv : List (Nat × Value)) (st : List Value) (ws : va_W) (cells slots : Nat) : Prop :=
  ∀ (H : Heap) (locs : List Loc) (ls : Array Slot), (ro → H = s.heap ∧ locs = []) → va_P D cl ws H → va_D A ws → va_S A s.heap H locs → lv_has ls nL lv → W p l e R s m args below meth c H locs cells slots Q (F0 m pc ls st)
/-- what stays as it is in a method -/
def FX (p : Program) (s : State) (m : MethodId) (args : Array Value) (meth : Method) (c : Code) (cc : ByteArray) (nL : Nat) (ret : Option FieldType) (Ts : List Cond) (own : String) (D : va_G) (cl : List vw_C) (cI cZ cJ : ClassId) (SL : List zS) (A : Nat → Prop) : Prop :=
  CallFix p m c cc nL s args Ts own ∧ va_K D cl (zT cI cZ cJ) s ∧ (∀ q, s.heap.size ≤ q → A q) ∧ SF SL A s s.heap ∧ meth.sig.returnType = ret ∧ meth.locks = false

theorem tt_iconst (F : FX p s m args meth c cc nL ret Ts own D cl cI cZ cJ SL A) {n : Int} (hd : decode cc pc = .ok (.iconst n, 1)) (k : TT p l e R s m args below meth c D cl A nL ro Q (pc + 1) lv (.int (iZ n) :: st) ws cells slots) : TT p l e R s m args below meth c D cl A nL ro Q pc lv st ws cells slots := fun H locs ls hN hP hD hS hl => lv_iconst F.1.1 F.1.2.1 hd rfl (k H locs ls hN hP hD hS hl)
theorem tt_bipush (F : FX p s m args meth c cc nL ret Ts own D cl cI cZ cJ SL A) {n : Int} (hv : (Int8.ofInt n).toInt32 = iZ n) (hd : decode cc pc = .ok (.bipush n, 2)) (k : TT p l e R s m args below meth c D cl A nL ro Q (pc + 2) lv (.int (iZ n) :: st) ws cells slots) : TT p l e R s m args below meth c D cl A nL ro Q pc lv st ws cells slots := fun H locs ls hN hP hD hS hl => lv_bipush F.1.1 F.1.2.1 hd hv (k H locs ls hN hP hD hS hl)
theorem tt_sipush (F : FX p s m args meth c cc nL ret Ts own D cl cI cZ cJ SL A) {n : Int} (hv : (Int16.ofInt n).toInt32 = iZ n) (hd : decode cc pc = .ok (.sipush n, 3)) (k : TT p l e R s m args below meth c D cl A nL ro Q (pc + 3) lv (.int (iZ n) :: st) ws cells slots) : TT p l e R s m args below meth c D cl A nL ro Q pc lv st ws cells slots := fun H locs ls hN hP hD hS hl => lv_sipush F.1.1 F.1.2.1 hd hv (k H locs ls hN hP hD hS hl)
theorem tt_ldc (F : FX p s m args meth c cc nL ret Ts own D cl cI cZ cJ SL A) {n : Int} {ix : Nat} (hw : Cond.constant own ix (iZ n) ∈ Ts) (hd : decode cc pc = .ok (.ldc ix, 2)) (k : TT p l e R s m args below meth c D cl A nL ro Q (pc + 2) lv (.int (iZ n) :: st) ws cells slots) : TT p l e R s m args below meth c D cl A nL ro Q pc lv st ws cells slots := fun H locs ls hN hP hD hS hl => lv_ldc F.1.1 F.1.2.1 F.1.2.2.2.1 (F.1.2.2.2.2 _ hw) hd (k H locs ls hN hP hD hS hl)
theorem tt_ldcw (F : FX p s m args meth c cc nL ret Ts own D cl cI cZ cJ SL A) {n : Int} {ix : Nat} (hw : Cond.constant own ix (iZ n) ∈ Ts) (hd : decode cc pc = .ok (.ldc_w ix, 3)) (k : TT p l e R s m args below meth c D cl A nL ro Q (pc + 3) lv (.int (iZ n) :: st) ws cells slots) : TT p l e R s m args below meth c D cl A nL ro Q pc lv st ws cells slots := fun H locs ls hN hP hD hS hl => lv_ldcw F.1.1 F.1.2.1 F.1.2.2.2.1 (F.1.2.2.2.2 _ hw) hd (k H locs ls hN hP hD hS hl)
theorem tt_iload_n (F : FX p s m args meth c cc nL ret Ts own D cl cI cZ cJ SL A) {j : Fin 4} {i : Nat} {x : Int32} (q : Nat) (hi : (j : Nat) = i) (hq : lv[q]? = some (i, .int x)) (hd : decode cc pc = .ok (.iload_n j, 1)) (k : TT p l e R s m args below meth c D cl A nL ro Q (pc + 1) lv (.int x :: st) ws cells slots) : TT p l e R s m args below meth c D cl A nL ro Q pc lv st ws cells slots := fun H locs ls hN hP hD hS hl => lv_iload_n F.1.1 F.1.2.1 hd hi (lv_at hl q hq) (k H locs ls hN hP hD hS hl)
theorem tt_iload (F : FX p s m args meth c cc nL ret Ts own D cl cI cZ cJ SL A) {i : Nat} {x : Int32} (q : Nat) (hq : lv[q]? = some (i, .int x)) (hd : decode cc pc = .ok (.iload i, 2)) (k : TT p l e R s m args below meth c D cl A nL ro Q (pc + 2) lv (.int x :: st) ws cells slots) : TT p l e R s m args below meth c D cl A nL ro Q pc lv st ws cells slots := fun H locs ls hN hP hD hS hl => lv_iload F.1.1 F.1.2.1 hd (lv_at hl q hq) (k H locs ls hN hP hD hS hl)
theorem tt_aload_n (F : FX p s m args meth c cc nL ret Ts own D cl cI cZ cJ SL A) {j : Fin 4} {i : Nat} {x : Nat} (q : Nat) (hi : (j : Nat) = i) (hq : lv[q]? = some (i, .ref x)) (hd : decode cc pc = .ok (.aload_n j, 1)) (k : TT p l e R s m args below meth c D cl A nL ro Q (pc + 1) lv (.ref x :: st) ws cells slots) : TT p l e R s m args below meth c D cl A nL ro Q pc lv st ws cells slots := fun H locs ls hN hP hD hS hl => lv_aload_n F.1.1 F.1.2.1 hd hi (lv_at hl q hq) (k H locs ls hN hP hD hS hl)
theorem tt_aload (F : FX p s m args meth c cc nL ret Ts own D cl cI cZ cJ SL A) {i : Nat} {x : Nat} (q : Nat) (hq : lv[q]? = some (i, .ref x)) (hd : decode cc pc = .ok (.aload i, 2)) (k : TT p l e R s m args below meth c D cl A nL ro Q (pc + 2) lv (.ref x :: st) ws cells slots) : TT p l e R s m args below meth c D cl A nL ro Q pc lv st ws cells slots := fun H locs ls hN hP hD hS hl => lv_aload F.1.1 F.1.2.1 hd (lv_at hl q hq) (k H locs ls hN hP hD hS hl)
theorem tt_istore_n (F : FX p s m args meth c cc nL ret Ts own D cl cI cZ cJ SL A) {j : Fin 4} {i : Nat} {x : Int32} (lv' : List (Nat × Value)) (hi : (j : Nat) = i) (hn : i < nL) (hq : (i, Value.int x) :: lv.filter (fun q => !(q.1 == i) && !(q.1 + 1 == i && q.2.category == 2)) = lv') (hd : decode cc pc = .ok (.istore_n j, 1)) (k : TT p l e R s m args below meth c D cl A nL ro Q (pc + 1) lv' st ws cells slots) : TT p l e R s m args below meth c D cl A nL ro Q pc lv (.int x :: st) ws cells slots := fun H locs ls hN hP hD hS hl => lv_istore_n F.1.1 F.1.2.1 hd hi hl hn hq (fun ls hl => k H locs ls hN hP hD hS hl)
theorem tt_istore (F : FX p s m args meth c cc nL ret Ts own D cl cI cZ cJ SL A) {i : Nat} {x : Int32} (lv' : List (Nat × Value)) (hn : i < nL) (hq : (i, Value.int x) :: lv.filter (fun q => !(q.1 == i) && !(q.1 + 1 == i && q.2.category == 2)) = lv') (hd : decode cc pc = .ok (.istore i, 2)) (k : TT p l e R s m args below meth c D cl A nL ro Q (pc + 2) lv' st ws cells slots) : TT p l e R s m args below meth c D cl A nL ro Q pc lv (.int x :: st) ws cells slots := fun H locs ls hN hP hD hS hl => lv_istore F.1.1 F.1.2.1 hd hl hn hq (fun ls hl => k H locs ls hN hP hD hS hl)
theorem tt_astore_n (F : FX p s m args meth c cc nL ret Ts own D cl cI cZ cJ SL A) {j : Fin 4} {i : Nat} {x : Nat} (lv' : List (Nat × Value)) (hi : (j : Nat) = i) (hn : i < nL) (hq : (i, Value.ref x) :: lv.filter (fun q => !(q.1 == i) && !(q.1 + 1 == i && q.2.category == 2)) = lv') (hd : decode cc pc = .ok (.astore_n j, 1)) (k : TT p l e R s m args below meth c D cl A nL ro Q (pc + 1) lv' st ws cells slots) : TT p l e R s m args below meth c D cl A nL ro Q pc lv (.ref x :: st) ws cells slots := fun H locs ls hN hP hD hS hl => lv_astore_n F.1.1 F.1.2.1 hd hi hl hn hq (fun ls hl => k H locs ls hN hP hD hS hl)
theorem tt_astore (F : FX p s m args meth c cc nL ret Ts own D cl cI cZ cJ SL A) {i : Nat} {x : Nat} (lv' : List (Nat × Value)) (hn : i < nL) (hq : (i, Value.ref x) :: lv.filter (fun q => !(q.1 == i) && !(q.1 + 1 == i && q.2.category == 2)) = lv') (hd : decode cc pc = .ok (.astore i, 2)) (k : TT p l e R s m args below meth c D cl A nL ro Q (pc + 2) lv' st ws cells slots) : TT p l e R s m args below meth c D cl A nL ro Q pc lv (.ref x :: st) ws cells slots := fun H locs ls hN hP hD hS hl => lv_astore F.1.1 F.1.2.1 hd hl hn hq (fun ls hl => k H locs ls hN hP hD hS hl)
theorem tt_iinc (F : FX p s m args meth c cc nL ret Ts own D cl cI cZ cJ SL A) {i : Nat} {n z : Int} (q : Nat) (lv' : List (Nat × Value)) (hq : lv[q]? = some (i, .int (iZ z))) (hn : i < nL) (hq2 : (i, Value.int (iZ (z + n))) :: lv.filter (fun q => !(q.1 == i) && !(q.1 + 1 == i && q.2.category == 2)) = lv') (hd : decode cc pc = .ok (.iinc i n, 3)) (k : TT p l e R s m args below meth c D cl A nL ro Q (pc + 3) lv' st ws cells slots) : TT p l e R s m args below meth c D cl A nL ro Q pc lv st ws cells slots := fun H locs ls hN hP hD hS hl => lv_iinc F.1.1 F.1.2.1 hd hl hq (iZ_inc z n) hn hq2 (fun ls hl => k H locs ls hN hP hD hS hl)
theorem tt_dup (F : FX p s m args meth c cc nL ret Ts own D cl cI cZ cJ SL A) {v : Value} (hv : v.category = 1) (hd : decode cc pc = .ok (.dup, 1)) (k : TT p l e R s m args below meth c D cl A nL ro Q (pc + 1) lv (v :: v :: st) ws cells slots) : TT p l e R s m args below meth c D cl A nL ro Q pc lv (v :: st) ws cells slots := fun H locs ls hN hP hD hS hl => lv_dup F.1.1 F.1.2.1 hd hv (k H locs ls hN hP hD hS hl)
theorem tt_dup2 (F : FX p s m args meth c cc nL ret Ts own D cl cI cZ cJ SL A) {v w : Value} (hv : v.category = 1) (hw : w.category = 1) (hd : decode cc pc = .ok (.dup2, 1)) (k : TT p l e R s m args below meth c D cl A nL ro Q (pc + 1) lv (v :: w :: v :: w :: st) ws cells slots) : TT p l e R s m args below meth c D cl A nL ro Q pc lv (v :: w :: st) ws cells slots := fun H locs ls hN hP hD hS hl => lv_dup2_11 F.1.1 F.1.2.1 hd hv hw (k H locs ls hN hP hD hS hl)
theorem tt_dup_x1 (F : FX p s m args meth c cc nL ret Ts own D cl cI cZ cJ SL A) {v w : Value} (hv : v.category = 1) (hw : w.category = 1) (hd : decode cc pc = .ok (.dup_x1, 1)) (k : TT p l e R s m args below meth c D cl A nL ro Q (pc + 1) lv (v :: w :: v :: st) ws cells slots) : TT p l e R s m args below meth c D cl A nL ro Q pc lv (v :: w :: st) ws cells slots := fun H locs ls hN hP hD hS hl => lv_dup_x1 F.1.1 F.1.2.1 hd hv hw (k H locs ls hN hP hD hS hl)
theorem tt_dup_x2 (F : FX p s m args meth c cc nL ret Ts own D cl cI cZ cJ SL A) {v w u : Value} (hv : v.category = 1) (hw : w.category = 1) (hu : u.category = 1) (hd : decode cc pc = .ok (.dup_x2, 1)) (k : TT p l e R s m args below meth c D cl A nL ro Q (pc + 1) lv (v :: w :: u :: v :: st) ws cells slots) : TT p l e R s m args below meth c D cl A nL ro Q pc lv (v :: w :: u :: st) ws cells slots := fun H locs ls hN hP hD hS hl => lv_dup_x2 F.1.1 F.1.2.1 hd hv hw hu (k H locs ls hN hP hD hS hl)
theorem tt_pop (F : FX p s m args meth c cc nL ret Ts own D cl cI cZ cJ SL A) {v : Value} (hv : v.category = 1) (hd : decode cc pc = .ok (.pop, 1)) (k : TT p l e R s m args below meth c D cl A nL ro Q (pc + 1) lv st ws cells slots) : TT p l e R s m args below meth c D cl A nL ro Q pc lv (v :: st) ws cells slots := fun H locs ls hN hP hD hS hl => lv_pop F.1.1 F.1.2.1 hd hv (k H locs ls hN hP hD hS hl)
theorem tt_iadd (F : FX p s m args meth c cc nL ret Ts own D cl cI cZ cJ SL A) {a b : Int} (hd : decode cc pc = .ok (.iadd, 1)) (k : TT p l e R s m args below meth c D cl A nL ro Q (pc + 1) lv (.int (iZ (a + b)) :: st) ws cells slots) : TT p l e R s m args below meth c D cl A nL ro Q pc lv (.int (iZ b) :: .int (iZ a) :: st) ws cells slots := fun H locs ls hN hP hD hS hl => lv_iadd F.1.1 F.1.2.1 hd (by rw [iZ_add]; exact k H locs ls hN hP hD hS hl)
theorem tt_isub (F : FX p s m args meth c cc nL ret Ts own D cl cI cZ cJ SL A) {a b : Int} (hd : decode cc pc = .ok (.isub, 1)) (k : TT p l e R s m args below meth c D cl A nL ro Q (pc + 1) lv (.int (iZ (a - b)) :: st) ws cells slots) : TT p l e R s m args below meth c D cl A nL ro Q pc lv (.int (iZ b) :: .int (iZ a) :: st) ws cells slots := fun H locs ls hN hP hD hS hl => lv_isub F.1.1 F.1.2.1 hd (by rw [iZ_sub]; exact k H locs ls hN hP hD hS hl)
theorem tt_imul (F : FX p s m args meth c cc nL ret Ts own D cl cI cZ cJ SL A) {a b : Int} (hd : decode cc pc = .ok (.imul, 1)) (k : TT p l e R s m args below meth c D cl A nL ro Q (pc + 1) lv (.int (iZ (a * b)) :: st) ws cells slots) : TT p l e R s m args below meth c D cl A nL ro Q pc lv (.int (iZ b) :: .int (iZ a) :: st) ws cells slots := fun H locs ls hN hP hD hS hl => lv_imul F.1.1 F.1.2.1 hd (by rw [iZ_mul]; exact k H locs ls hN hP hD hS hl)
theorem tt_ineg (F : FX p s m args meth c cc nL ret Ts own D cl cI cZ cJ SL A) {a : Int} (hd : decode cc pc = .ok (.ineg, 1)) (k : TT p l e R s m args below meth c D cl A nL ro Q (pc + 1) lv (.int (iZ (-a)) :: st) ws cells slots) : TT p l e R s m args below meth c D cl A nL ro Q pc lv (.int (iZ a) :: st) ws cells slots := fun H locs ls hN hP hD hS hl => lv_ineg F.1.1 F.1.2.1 hd (by rw [iZ_neg]; exact k H locs ls hN hP hD hS hl)
theorem tt_iand (F : FX p s m args meth c cc nL ret Ts own D cl cI cZ cJ SL A) {a b : Int} (hd : decode cc pc = .ok (.iand, 1)) (k : TT p l e R s m args below meth c D cl A nL ro Q (pc + 1) lv (.int (iZ (zand a b)) :: st) ws cells slots) : TT p l e R s m args below meth c D cl A nL ro Q pc lv (.int (iZ b) :: .int (iZ a) :: st) ws cells slots := fun H locs ls hN hP hD hS hl => lv_iand F.1.1 F.1.2.1 hd (by have h2 := k H locs ls hN hP hD hS hl; rw [zand, iZ_of] at h2; exact h2)
theorem tt_ior (F : FX p s m args meth c cc nL ret Ts own D cl cI cZ cJ SL A) {a b : Int} (hd : decode cc pc = .ok (.ior, 1)) (k : TT p l e R s m args below meth c D cl A nL ro Q (pc + 1) lv (.int (iZ (zor a b)) :: st) ws cells slots) : TT p l e R s m args below meth c D cl A nL ro Q pc lv (.int (iZ b) :: .int (iZ a) :: st) ws cells slots := fun H locs ls hN hP hD hS hl => lv_ior F.1.1 F.1.2.1 hd (by have h2 := k H locs ls hN hP hD hS hl; rw [zor, iZ_of] at h2; exact h2)
theorem tt_ixor (F : FX p s m args meth c cc nL ret Ts own D cl cI cZ cJ SL A) {a b : Int} (hd : decode cc pc = .ok (.ixor, 1)) (k : TT p l e R s m args below meth c D cl A nL ro Q (pc + 1) lv (.int (iZ (zxor a b)) :: st) ws cells slots) : TT p l e R s m args below meth c D cl A nL ro Q pc lv (.int (iZ b) :: .int (iZ a) :: st) ws cells slots := fun H locs ls hN hP hD hS hl => lv_ixor F.1.1 F.1.2.1 hd (by have h2 := k H locs ls hN hP hD hS hl; rw [zxor, iZ_of] at h2; exact h2)
theorem tt_ishl (F : FX p s m args meth c cc nL ret Ts own D cl cI cZ cJ SL A) {a b : Int} (hd : decode cc pc = .ok (.ishl, 1)) (k : TT p l e R s m args below meth c D cl A nL ro Q (pc + 1) lv (.int (iZ (zshl a b)) :: st) ws cells slots) : TT p l e R s m args below meth c D cl A nL ro Q pc lv (.int (iZ b) :: .int (iZ a) :: st) ws cells slots := fun H locs ls hN hP hD hS hl => lv_ishl F.1.1 F.1.2.1 hd (by have h2 := k H locs ls hN hP hD hS hl; rw [zshl, iZ_of] at h2; exact h2)
theorem tt_ishr (F : FX p s m args meth c cc nL ret Ts own D cl cI cZ cJ SL A) {a b : Int} (hd : decode cc pc = .ok (.ishr, 1)) (k : TT p l e R s m args below meth c D cl A nL ro Q (pc + 1) lv (.int (iZ (zshr a b)) :: st) ws cells slots) : TT p l e R s m args below meth c D cl A nL ro Q pc lv (.int (iZ b) :: .int (iZ a) :: st) ws cells slots := fun H locs ls hN hP hD hS hl => lv_ishr F.1.1 F.1.2.1 hd (by have h2 := k H locs ls hN hP hD hS hl; rw [zshr, iZ_of] at h2; exact h2)
theorem tt_iushr (F : FX p s m args meth c cc nL ret Ts own D cl cI cZ cJ SL A) {a b : Int} (hd : decode cc pc = .ok (.iushr, 1)) (k : TT p l e R s m args below meth c D cl A nL ro Q (pc + 1) lv (.int (iZ (zushr a b)) :: st) ws cells slots) : TT p l e R s m args below meth c D cl A nL ro Q pc lv (.int (iZ b) :: .int (iZ a) :: st) ws cells slots := fun H locs ls hN hP hD hS hl => lv_iushr F.1.1 F.1.2.1 hd (by rw [zushr, iZ_of]) (k H locs ls hN hP hD hS hl)
theorem tt_name {a : Int} (k : ∀ x : Int, x = a → TT p l e R s m args below meth c D cl A nL ro Q pc lv (.int (iZ x) :: st) ws cells slots) : TT p l e R s m args below meth c D cl A nL ro Q pc lv (.int (iZ a) :: st) ws cells slots := k a rfl
theorem tt_top {a b : Int} (h : a = b) (k : TT p l e R s m args below meth c D cl A nL ro Q pc lv (.int (iZ b) :: st) ws cells slots) : TT p l e R s m args below meth c D cl A nL ro Q pc lv (.int (iZ a) :: st) ws cells slots := h ▸ k
theorem tt_join {pc' : Nat} {lv' : List (Nat × Value)} {st' : List Value} (P : Int → Prop) (J : ∀ v : Int, P v → TT p l e R s m args below meth c D cl A nL ro Q pc' lv' (.int (iZ v) :: st') ws cells slots) (k : (∀ v : Int, P v → TT p l e R s m args below meth c D cl A nL ro Q pc' lv' (.int (iZ v) :: st') ws cells slots) → TT p l e R s m args below meth c D cl A nL ro Q pc lv st ws cells slots) : TT p l e R s m args below meth c D cl A nL ro Q pc lv st ws cells slots := k J
theorem tt_icmp_eq (F : FX p s m args meth c cc nL ret Ts own D cl cI cZ cJ SL A) {a b off : Int} (tgt : Nat) (ha : ir a) (hb : ir b) (hd : decode cc pc = .ok (.if_icmp .eq off, 3)) (ht : (pc : Int) + off = (tgt : Int)) (kt : a = b → TT p l e R s m args below meth c D cl A nL ro Q tgt lv st ws cells slots) (kf : ¬ a = b → TT p l e R s m args below meth c D cl A nL ro Q (pc + 3) lv st ws cells slots) : TT p l e R s m args below meth c D cl A nL ro Q pc lv (.int (iZ b) :: .int (iZ a) :: st) ws cells slots := fun H locs ls hN hP hD hS hl => lv_icmp_eq F.1.1 F.1.2.1 hd ht (fun h => kt ((iZ_eq ha hb).mp h) H locs ls hN hP hD hS hl) (fun h => kf (fun q => h ((iZ_eq ha hb).mpr q)) H locs ls hN hP hD hS hl)
theorem tt_icmp_ne (F : FX p s m args meth c cc nL ret Ts own D cl cI cZ cJ SL A) {a b off : Int} (tgt : Nat) (ha : ir a) (hb : ir b) (hd : decode cc pc = .ok (.if_icmp .ne off, 3)) (ht : (pc : Int) + off = (tgt : Int)) (kt : ¬ a = b → TT p l e R s m args below meth c D cl A nL ro Q tgt lv st ws cells slots) (kf : a = b → TT p l e R s m args below meth c D cl A nL ro Q (pc + 3) lv st ws cells slots) : TT p l e R s m args below meth c D cl A nL ro Q pc lv (.int (iZ b) :: .int (iZ a) :: st) ws cells slots := fun H locs ls hN hP hD hS hl => lv_icmp_ne F.1.1 F.1.2.1 hd ht (fun h => kt (fun q => h ((iZ_eq ha hb).mpr q)) H locs ls hN hP hD hS hl) (fun h => kf ((iZ_eq ha hb).mp h) H locs ls hN hP hD hS hl)
theorem tt_icmp_lt (F : FX p s m args meth c cc nL ret Ts own D cl cI cZ cJ SL A) {a b off : Int} (tgt : Nat) (ha : ir a) (hb : ir b) (hd : decode cc pc = .ok (.if_icmp .lt off, 3)) (ht : (pc : Int) + off = (tgt : Int)) (kt : a < b → TT p l e R s m args below meth c D cl A nL ro Q tgt lv st ws cells slots) (kf : b ≤ a → TT p l e R s m args below meth c D cl A nL ro Q (pc + 3) lv st ws cells slots) : TT p l e R s m args below meth c D cl A nL ro Q pc lv (.int (iZ b) :: .int (iZ a) :: st) ws cells slots := fun H locs ls hN hP hD hS hl => lv_icmp_lt F.1.1 F.1.2.1 hd ht (fun h => kt ((iZ_lt ha hb).mp h) H locs ls hN hP hD hS hl) (fun h => kf (Int.not_lt.mp (fun q => h ((iZ_lt ha hb).mpr q))) H locs ls hN hP hD hS hl)
theorem tt_icmp_ge (F : FX p s m args meth c cc nL ret Ts own D cl cI cZ cJ SL A) {a b off : Int} (tgt : Nat) (ha : ir a) (hb : ir b) (hd : decode cc pc = .ok (.if_icmp .ge off, 3)) (ht : (pc : Int) + off = (tgt : Int)) (kt : b ≤ a → TT p l e R s m args below meth c D cl A nL ro Q tgt lv st ws cells slots) (kf : a < b → TT p l e R s m args below meth c D cl A nL ro Q (pc + 3) lv st ws cells slots) : TT p l e R s m args below meth c D cl A nL ro Q pc lv (.int (iZ b) :: .int (iZ a) :: st) ws cells slots := fun H locs ls hN hP hD hS hl => lv_icmp_ge F.1.1 F.1.2.1 hd ht (fun h => kt ((iZ_le hb ha).mp h) H locs ls hN hP hD hS hl) (fun h => kf (Int.not_le.mp (fun q => h ((iZ_le hb ha).mpr q))) H locs ls hN hP hD hS hl)
theorem tt_icmp_gt (F : FX p s m args meth c cc nL ret Ts own D cl cI cZ cJ SL A) {a b off : Int} (tgt : Nat) (ha : ir a) (hb : ir b) (hd : decode cc pc = .ok (.if_icmp .gt off, 3)) (ht : (pc : Int) + off = (tgt : Int)) (kt : b < a → TT p l e R s m args below meth c D cl A nL ro Q tgt lv st ws cells slots) (kf : a ≤ b → TT p l e R s m args below meth c D cl A nL ro Q (pc + 3) lv st ws cells slots) : TT p l e R s m args below meth c D cl A nL ro Q pc lv (.int (iZ b) :: .int (iZ a) :: st) ws cells slots := fun H locs ls hN hP hD hS hl => lv_icmp_gt F.1.1 F.1.2.1 hd ht (fun h => kt ((iZ_lt hb ha).mp h) H locs ls hN hP hD hS hl) (fun h => kf (Int.not_lt.mp (fun q => h ((iZ_lt hb ha).mpr q))) H locs ls hN hP hD hS hl)
theorem tt_icmp_le (F : FX p s m args meth c cc nL ret Ts own D cl cI cZ cJ SL A) {a b off : Int} (tgt : Nat) (ha : ir a) (hb : ir b) (hd : decode cc pc = .ok (.if_icmp .le off, 3)) (ht : (pc : Int) + off = (tgt : Int)) (kt : a ≤ b → TT p l e R s m args below meth c D cl A nL ro Q tgt lv st ws cells slots) (kf : b < a → TT p l e R s m args below meth c D cl A nL ro Q (pc + 3) lv st ws cells slots) : TT p l e R s m args below meth c D cl A nL ro Q pc lv (.int (iZ b) :: .int (iZ a) :: st) ws cells slots := fun H locs ls hN hP hD hS hl => lv_icmp_le F.1.1 F.1.2.1 hd ht (fun h => kt ((iZ_le ha hb).mp h) H locs ls hN hP hD hS hl) (fun h => kf (Int.not_le.mp (fun q => h ((iZ_le ha hb).mpr q))) H locs ls hN hP hD hS hl)
theorem tt_if_eq (F : FX p s m args meth c cc nL ret Ts own D cl cI cZ cJ SL A) {a off : Int} (tgt : Nat) (ha : ir a) (hd : decode cc pc = .ok (.ifCond .eq off, 3)) (ht : (pc : Int) + off = (tgt : Int)) (kt : a = 0 → TT p l e R s m args below meth c D cl A nL ro Q tgt lv st ws cells slots) (kf : ¬ a = 0 → TT p l e R s m args below meth c D cl A nL ro Q (pc + 3) lv st ws cells slots) : TT p l e R s m args below meth c D cl A nL ro Q pc lv (.int (iZ a) :: st) ws cells slots := fun H locs ls hN hP hD hS hl => lv_if_eq F.1.1 F.1.2.1 hd ht (fun h => kt ((iZ_eq0 ha).mp h) H locs ls hN hP hD hS hl) (fun h => kf (fun q => h ((iZ_eq0 ha).mpr q)) H locs ls hN hP hD hS hl)
theorem tt_if_ne (F : FX p s m args meth c cc nL ret Ts own D cl cI cZ cJ SL A) {a off : Int} (tgt : Nat) (ha : ir a) (hd : decode cc pc = .ok (.ifCond .ne off, 3)) (ht : (pc : Int) + off = (tgt : Int)) (kt : ¬ a = 0 → TT p l e R s m args below meth c D cl A nL ro Q tgt lv st ws cells slots) (kf : a = 0 → TT p l e R s m args below meth c D cl A nL ro Q (pc + 3) lv st ws cells slots) : TT p l e R s m args below meth c D cl A nL ro Q pc lv (.int (iZ a) :: st) ws cells slots := fun H locs ls hN hP hD hS hl => lv_if_ne F.1.1 F.1.2.1 hd ht (fun h => kt (fun q => h ((iZ_eq0 ha).mpr q)) H locs ls hN hP hD hS hl) (fun h => kf ((iZ_eq0 ha).mp h) H locs ls hN hP hD hS hl)
theorem tt_if_lt (F : FX p s m args meth c cc nL ret Ts own D cl cI cZ cJ SL A) {a off : Int} (tgt : Nat) (ha : ir a) (hd : decode cc pc = .ok (.ifCond .lt off, 3)) (ht : (pc : Int) + off = (tgt : Int)) (kt : a < 0 → TT p l e R s m args below meth c D cl A nL ro Q tgt lv st ws cells slots) (kf : 0 ≤ a → TT p l e R s m args below meth c D cl A nL ro Q (pc + 3) lv st ws cells slots) : TT p l e R s m args below meth c D cl A nL ro Q pc lv (.int (iZ a) :: st) ws cells slots := fun H locs ls hN hP hD hS hl => lv_if_lt F.1.1 F.1.2.1 hd ht (fun h => kt ((iZ_lt0 ha).mp h) H locs ls hN hP hD hS hl) (fun h => kf (Int.not_lt.mp (fun q => h ((iZ_lt0 ha).mpr q))) H locs ls hN hP hD hS hl)
theorem tt_if_ge (F : FX p s m args meth c cc nL ret Ts own D cl cI cZ cJ SL A) {a off : Int} (tgt : Nat) (ha : ir a) (hd : decode cc pc = .ok (.ifCond .ge off, 3)) (ht : (pc : Int) + off = (tgt : Int)) (kt : 0 ≤ a → TT p l e R s m args below meth c D cl A nL ro Q tgt lv st ws cells slots) (kf : a < 0 → TT p l e R s m args below meth c D cl A nL ro Q (pc + 3) lv st ws cells slots) : TT p l e R s m args below meth c D cl A nL ro Q pc lv (.int (iZ a) :: st) ws cells slots := fun H locs ls hN hP hD hS hl => lv_if_ge F.1.1 F.1.2.1 hd ht (fun h => kt ((iZ_ge0 ha).mp h) H locs ls hN hP hD hS hl) (fun h => kf (Int.not_le.mp (fun q => h ((iZ_ge0 ha).mpr q))) H locs ls hN hP hD hS hl)
theorem tt_if_gt (F : FX p s m args meth c cc nL ret Ts own D cl cI cZ cJ SL A) {a off : Int} (tgt : Nat) (ha : ir a) (hd : decode cc pc = .ok (.ifCond .gt off, 3)) (ht : (pc : Int) + off = (tgt : Int)) (kt : 0 < a → TT p l e R s m args below meth c D cl A nL ro Q tgt lv st ws cells slots) (kf : a ≤ 0 → TT p l e R s m args below meth c D cl A nL ro Q (pc + 3) lv st ws cells slots) : TT p l e R s m args below meth c D cl A nL ro Q pc lv (.int (iZ a) :: st) ws cells slots := fun H locs ls hN hP hD hS hl => lv_if_gt F.1.1 F.1.2.1 hd ht (fun h => kt ((iZ_gt0 ha).mp h) H locs ls hN hP hD hS hl) (fun h => kf (Int.not_lt.mp (fun q => h ((iZ_gt0 ha).mpr q))) H locs ls hN hP hD hS hl)
theorem tt_if_le (F : FX p s m args meth c cc nL ret Ts own D cl cI cZ cJ SL A) {a off : Int} (tgt : Nat) (ha : ir a) (hd : decode cc pc = .ok (.ifCond .le off, 3)) (ht : (pc : Int) + off = (tgt : Int)) (kt : a ≤ 0 → TT p l e R s m args below meth c D cl A nL ro Q tgt lv st ws cells slots) (kf : 0 < a → TT p l e R s m args below meth c D cl A nL ro Q (pc + 3) lv st ws cells slots) : TT p l e R s m args below meth c D cl A nL ro Q pc lv (.int (iZ a) :: st) ws cells slots := fun H locs ls hN hP hD hS hl => lv_if_le F.1.1 F.1.2.1 hd ht (fun h => kt ((iZ_le0 ha).mp h) H locs ls hN hP hD hS hl) (fun h => kf (Int.not_le.mp (fun q => h ((iZ_le0 ha).mpr q))) H locs ls hN hP hD hS hl)
theorem tt_goto (F : FX p s m args meth c cc nL ret Ts own D cl cI cZ cJ SL A) {off : Int} (tgt : Nat) (ht : (pc : Int) + off = (tgt : Int)) (hd : decode cc pc = .ok (.goto off, 3)) (k : TT p l e R s m args below meth c D cl A nL ro Q tgt lv st ws cells slots) : TT p l e R s m args below meth c D cl A nL ro Q pc lv st ws cells slots := fun H locs ls hN hP hD hS hl => lv_goto F.1.1 F.1.2.1 hd ht (k H locs ls hN hP hD hS hl)
theorem tt_get (F : FX p s m args meth c cc nL ret Ts own D cl cI cZ cJ SL A) {C : String} {T : u_T} {N ci ix a : Nat} {fs : List Value} {v : Value} (hin : ∀ w ∈ u_ws C T N, w ∈ Ts) (q0 : Nat) (he : ws[q0]? = some (a, .inr (ci, fs))) (hc : cl[ci]? = some (C, T, N)) (f : Nat) (hk : f < N) (hw : Cond.fieldLink own ix (T f).1 (T f).2.1 (T f).2.2.1 ∈ Ts) (hv : fs[f]? = some v) (hd : decode cc pc = .ok (.getfield ix, 3)) (k : TT p l e R s m args below meth c D cl A nL ro Q (pc + 3) lv (v :: st) ws cells slots) : TT p l e R s m args below meth c D cl A nL ro Q pc lv (.ref a :: st) ws cells slots := fun H locs ls hN hP hD hS hl => va_get F.1.1 F.1.2.1 F.1.2.2.2.2 hin F.1.2.2.2.1 F.2.1 hP q0 he hc f hk (F.1.2.2.2.2 _ hw) (fun _ h => h) hv hd (k H locs ls hN hP hD hS hl)
theorem tt_put (F : FX p s m args meth c cc nL ret Ts own D cl cI cZ cJ SL A) (hro : ¬ ro) {C : String} {T : u_T} {N ci ix a : Nat} {fs : List Value} {v : Value} {ty : FieldType} (hin : ∀ w ∈ u_ws C T N, w ∈ Ts) (ty0 : Nat → FieldType) (hty : ∀ k, k < N → parseFieldDescriptor (T k).2.2.1 = some (ty0 k)) (hnm : ∀ a, a < N → ∀ b, b < N → a ≠ b → (T a).2.1 ≠ (T b).2.1) (q0 : Nat) (he : ws[q0]? = some (a, .inr (ci, fs))) (hc : cl[ci]? = some (C, T, N)) (f : Nat) (hk : f < N) (hw : Cond.fieldLink own ix (T f).1 (T f).2.1 (T f).2.2.1 ∈ Ts) (hfin : (T f).2.2.2 = false) (hdesc : parseFieldDescriptor (T f).2.2.1 = some ty) (hn : narrow ty v = v) (hfit : fits ty v = true) (hle : f < fs.length) (hd : decode cc pc = .ok (.putfield ix, 3)) (k : TT p l e R s m args below meth c D cl A nL ro Q (pc + 3) lv st (ws.set q0 (a, .inr (ci, fs.set f v))) cells slots) : TT p l e R s m args below meth c D cl A nL ro Q pc lv (v :: .ref a :: st) ws cells slots := fun H locs ls hN hP hD hS hl => va_put F.1.1 F.1.2.1 F.1.2.2.2.2 hin ty0 hty hnm F.1.2.2.2.1 F.2.1 hP hD hS q0 he hc f hk (F.1.2.2.2.2 _ hw) (fun _ h => h) hfin hdesc hn hfit hle hd (fun H locs hP hD hS => k H locs ls (fun h => absurd h hro) hP hD hS hl)
theorem tt_putF (F : FX p s m args meth c cc nL ret Ts own D cl cI cZ cJ SL A) (hro : ¬ ro) {C : String} {T : u_T} {N ci ix a : Nat} {fs : List Value} {v : Value} {ty : FieldType} (hin : ∀ w ∈ u_ws C T N, w ∈ Ts) (ty0 : Nat → FieldType) (hty : ∀ k, k < N → parseFieldDescriptor (T k).2.2.1 = some (ty0 k)) (hnm : ∀ a, a < N → ∀ b, b < N → a ≠ b → (T a).2.1 ≠ (T b).2.1) (q0 : Nat) (he : ws[q0]? = some (a, .inr (ci, fs))) (hc : cl[ci]? = some (C, T, N)) (f : Nat) (hk : f < N) (hw : Cond.fieldLink own ix (T f).1 (T f).2.1 (T f).2.2.1 ∈ Ts) (hfin : (T f).2.2.2 = true) (hi : meth.name = "<init>") (ho : (T f).1 = own) (hdesc : parseFieldDescriptor (T f).2.2.1 = some ty) (hn : narrow ty v = v) (hfit : fits ty v = true) (hle : f < fs.length) (hd : decode cc pc = .ok (.putfield ix, 3)) (k : TT p l e R s m args below meth c D cl A nL ro Q (pc + 3) lv st (ws.set q0 (a, .inr (ci, fs.set f v))) cells slots) : TT p l e R s m args below meth c D cl A nL ro Q pc lv (v :: .ref a :: st) ws cells slots := fun H locs ls hN hP hD hS hl => va_putF F.1.1 F.1.2.1 F.1.2.2.2.2 hin ty0 hty hnm F.1.2.2.2.1 F.2.1 hP hD hS q0 he hc f hk (F.1.2.2.2.2 _ hw) (fun _ h => h) hfin hi ho hdesc hn hfit hle hd (fun H locs hP hD hS => k H locs ls (fun h => absurd h hro) hP hD hS hl)
theorem tt_iald (F : FX p s m args meth c cc nL ret Ts own D cl cI cZ cJ SL A) {a : Nat} {n z : Int} {f : Int → Int} (q0 : Nat) (he : ws[q0]? = some (a, aI cI n f)) (h0 : 0 ≤ z) (h1 : z < n) (hn : n < 2147483648) (hd : decode cc pc = .ok (.iaload, 1)) (k : TT p l e R s m args below meth c D cl A nL ro Q (pc + 1) lv (.int (iZ (f z)) :: st) ws cells slots) : TT p l e R s m args below meth c D cl A nL ro Q pc lv (.int (iZ z) :: .ref a :: st) ws cells slots := fun H locs ls hN hP hD hS hl => va_iald F.1.1 F.1.2.1 F.2.1 hP q0 0 he rfl (iZ_in h0 h1 hn) hd (by have h2 := k H locs ls hN hP hD hS hl; rw [← iZ_clz h0 (by omega)] at h2; exact h2)
theorem tt_zald (F : FX p s m args meth c cc nL ret Ts own D cl cI cZ cJ SL A) {a : Nat} {n z : Int} {f : Int → Int} (q0 : Nat) (he : ws[q0]? = some (a, aI cZ n f)) (h0 : 0 ≤ z) (h1 : z < n) (hn : n < 2147483648) (hd : decode cc pc = .ok (.baload, 1)) (k : TT p l e R s m args below meth c D cl A nL ro Q (pc + 1) lv (.int (iZ (f z)) :: st) ws cells slots) : TT p l e R s m args below meth c D cl A nL ro Q pc lv (.int (iZ z) :: .ref a :: st) ws cells slots := fun H locs ls hN hP hD hS hl => va_zald F.1.1 F.1.2.1 F.2.1 hP q0 1 he rfl (iZ_in h0 h1 hn) hd (by have h2 := k H locs ls hN hP hD hS hl; rw [← iZ_clz h0 (by omega)] at h2; exact h2)
theorem tt_jald (F : FX p s m args meth c cc nL ret Ts own D cl cI cZ cJ SL A) {a : Nat} {n z : Int} {f : Int → Int} (q0 : Nat) (he : ws[q0]? = some (a, aJ cJ n f)) (h0 : 0 ≤ z) (h1 : z < n) (hn : n < 2147483648) (hd : decode cc pc = .ok (.laload, 1)) (k : TT p l e R s m args below meth c D cl A nL ro Q (pc + 1) lv (.long (jZ (f z)) :: st) ws cells slots) : TT p l e R s m args below meth c D cl A nL ro Q pc lv (.int (iZ z) :: .ref a :: st) ws cells slots := fun H locs ls hN hP hD hS hl => va_lald F.1.1 F.1.2.1 F.2.1 hP q0 2 he rfl (iZ_in h0 h1 hn) hd (by have h2 := k H locs ls hN hP hD hS hl; rw [← iZ_clz h0 (by omega)] at h2; exact h2)
theorem tt_iast (F : FX p s m args meth c cc nL ret Ts own D cl cI cZ cJ SL A) (hro : ¬ ro) {a : Nat} {n z v : Int} {f : Int → Int} (q0 : Nat) (he : ws[q0]? = some (a, aI cI n f)) (h0 : 0 ≤ z) (h1 : z < n) (hn : n < 2147483648) (hd : decode cc pc = .ok (.iastore, 1)) (k : TT p l e R s m args below meth c D cl A nL ro Q (pc + 1) lv st (ws.set q0 (a, aI cI n (zu f z v))) cells slots) : TT p l e R s m args below meth c D cl A nL ro Q pc lv (.int (iZ v) :: .int (iZ z) :: .ref a :: st) ws cells slots := fun H locs ls hN hP hD hS hl => va_iast F.1.1 F.1.2.1 F.2.1 hP hD hS q0 0 he rfl (iZ_in h0 h1 hn) hd (fun H locs hP hD hS => by rw [zu_upd f v h0 (by omega)] at hP hD; exact k H locs ls (fun h => absurd h hro) hP hD hS hl)
theorem tt_zast (F : FX p s m args meth c cc nL ret Ts own D cl cI cZ cJ SL A) (hro : ¬ ro) {a : Nat} {n z v : Int} {f : Int → Int} (q0 : Nat) (he : ws[q0]? = some (a, aI cZ n f)) (h0 : 0 ≤ z) (h1 : z < n) (hn : n < 2147483648) (hv : v = 0 ∨ v = 1) (hd : decode cc pc = .ok (.bastore, 1)) (k : TT p l e R s m args below meth c D cl A nL ro Q (pc + 1) lv st (ws.set q0 (a, aI cZ n (zu f z v))) cells slots) : TT p l e R s m args below meth c D cl A nL ro Q pc lv (.int (iZ v) :: .int (iZ z) :: .ref a :: st) ws cells slots := fun H locs ls hN hP hD hS hl => va_zast F.1.1 F.1.2.1 F.2.1 hP hD hS q0 1 he rfl (iZ_in h0 h1 hn) hd (fun H locs hP hD hS => by rw [iZ_narZ hv, zu_upd f v h0 (by omega)] at hP hD; exact k H locs ls (fun h => absurd h hro) hP hD hS hl)
theorem tt_jast (F : FX p s m args meth c cc nL ret Ts own D cl cI cZ cJ SL A) (hro : ¬ ro) {a : Nat} {n z v : Int} {f : Int → Int} (q0 : Nat) (he : ws[q0]? = some (a, aJ cJ n f)) (h0 : 0 ≤ z) (h1 : z < n) (hn : n < 2147483648) (hd : decode cc pc = .ok (.lastore, 1)) (k : TT p l e R s m args below meth c D cl A nL ro Q (pc + 1) lv st (ws.set q0 (a, aJ cJ n (zu f z v))) cells slots) : TT p l e R s m args below meth c D cl A nL ro Q pc lv (.long (jZ v) :: .int (iZ z) :: .ref a :: st) ws cells slots := fun H locs ls hN hP hD hS hl => va_last F.1.1 F.1.2.1 F.2.1 hP hD hS q0 2 he rfl (iZ_in h0 h1 hn) hd (fun H locs hP hD hS => by rw [zu_updL f v h0 (by omega)] at hP hD; exact k H locs ls (fun h => absurd h hro) hP hD hS hl)
theorem tt_alen (F : FX p s m args meth c cc nL ret Ts own D cl cI cZ cJ SL A) {a : Nat} {n : Int} {f : Int → Int} (q0 : Nat) (he : ws[q0]? = some (a, aI cI n f)) (h0 : 0 ≤ n) (hd : decode cc pc = .ok (.arraylength, 1)) (k : TT p l e R s m args below meth c D cl A nL ro Q (pc + 1) lv (.int (iZ n) :: st) ws cells slots) : TT p l e R s m args below meth c D cl A nL ro Q pc lv (.ref a :: st) ws cells slots := fun H locs ls hN hP hD hS hl => va_alen F.1.1 F.1.2.1 F.2.1 hP q0 0 he rfl (v := iZ n) (by have h2 := iZ_nat n.toNat; rw [Int.toNat_of_nonneg h0] at h2; exact h2.symm) hd (k H locs ls hN hP hD hS hl)
theorem tt_zlen (F : FX p s m args meth c cc nL ret Ts own D cl cI cZ cJ SL A) {a : Nat} {n : Int} {f : Int → Int} (q0 : Nat) (he : ws[q0]? = some (a, aI cZ n f)) (h0 : 0 ≤ n) (hd : decode cc pc = .ok (.arraylength, 1)) (k : TT p l e R s m args below meth c D cl A nL ro Q (pc + 1) lv (.int (iZ n) :: st) ws cells slots) : TT p l e R s m args below meth c D cl A nL ro Q pc lv (.ref a :: st) ws cells slots := fun H locs ls hN hP hD hS hl => va_alen F.1.1 F.1.2.1 F.2.1 hP q0 1 he rfl (v := iZ n) (by have h2 := iZ_nat n.toNat; rw [Int.toNat_of_nonneg h0] at h2; exact h2.symm) hd (k H locs ls hN hP hD hS hl)
theorem tt_newI (F : FX p s m args meth c cc nL ret Ts own D cl cI cZ cJ SL A) (hro : ¬ ro) {n : Int} (hw : Cond.arrayClass .int ∈ Ts) (h0 : 0 ≤ n) (hn : n ≤ 100000000) (hc : cells + 1 ≤ R.cells) (hs : slots + n.toNat ≤ R.slots) (hd : decode cc pc = .ok (.newarray .int, 2)) (k : ∀ q : Nat, TT p l e R s m args below meth c D cl A nL ro Q (pc + 2) lv (.ref q :: st) (ws ++ [(q, aI cI n (fun _ => 0))]) (cells + 1) (slots + n.toNat)) : TT p l e R s m args below meth c D cl A nL ro Q pc lv (.int (iZ n) :: st) ws cells slots := by
  intro H locs ls hN hP hD hS hl
  refine va_newa (atype := .int) (a0 := (n.toNat, .inl (fun _ => iZ 0))) F.1.1 F.1.2.1 (F.1.2.2.2.2 _ hw) rfl F.2.1 hP hD hS F.2.2.1 (fun cA => rfl) (by rw [iZ_lt0 ⟨by omega, by omega⟩]; omega) (iZ_cl h0 (by omega)) (by show n.toNat * 4 ≤ _; omega) hc hs hd ?_
  intro q cA H1 hK hP hD hS
  have e1 : va_RA s cA .int := (hK.2 3 (cA, .int) rfl).2
  have e2 : va_RA s cI .int := (F.2.1.2 0 (cI, .int) rfl).2
  have e3 : some cA = some cI := Eq.trans (Eq.symm e1) e2
  cases e3
  exact k q H1 locs ls (fun h => absurd h hro) hP hD hS hl
theorem tt_newZ (F : FX p s m args meth c cc nL ret Ts own D cl cI cZ cJ SL A) (hro : ¬ ro) {n : Int} (hw : Cond.arrayClass .boolean ∈ Ts) (h0 : 0 ≤ n) (hn : n ≤ 100000000) (hc : cells + 1 ≤ R.cells) (hs : slots + n.toNat ≤ R.slots) (hd : decode cc pc = .ok (.newarray .boolean, 2)) (k : ∀ q : Nat, TT p l e R s m args below meth c D cl A nL ro Q (pc + 2) lv (.ref q :: st) (ws ++ [(q, aI cZ n (fun _ => 0))]) (cells + 1) (slots + n.toNat)) : TT p l e R s m args below meth c D cl A nL ro Q pc lv (.int (iZ n) :: st) ws cells slots := by
  intro H locs ls hN hP hD hS hl
  refine va_newa (atype := .boolean) (a0 := (n.toNat, .inl (fun _ => iZ 0))) F.1.1 F.1.2.1 (F.1.2.2.2.2 _ hw) rfl F.2.1 hP hD hS F.2.2.1 (fun cA => rfl) (by rw [iZ_lt0 ⟨by omega, by omega⟩]; omega) (iZ_cl h0 (by omega)) (by show n.toNat * 1 ≤ _; omega) hc hs hd ?_
  intro q cA H1 hK hP hD hS
  have e1 : va_RA s cA .boolean := (hK.2 3 (cA, .boolean) rfl).2
  have e2 : va_RA s cZ .boolean := (F.2.1.2 1 (cZ, .boolean) rfl).2
  have e3 : some cA = some cZ := Eq.trans (Eq.symm e1) e2
  cases e3
  exact k q H1 locs ls (fun h => absurd h hro) hP hD hS hl
theorem tt_gets (F : FX p s m args meth c cc nL ret Ts own D cl cI cZ cJ SL A) {C n d : String} {t N ix : Nat} {f : Nat → Value} (j : Nat) (hj : SL[j]? = some (C, n, d, t, N, f)) (hw : Cond.fieldLink own ix C n d ∈ Ts) (hd : decode cc pc = .ok (.getstatic ix, 3)) (k : TT p l e R s m args below meth c D cl A nL ro Q (pc + 3) lv (.ref t :: st) ws cells slots) : TT p l e R s m args below meth c D cl A nL ro Q pc lv st ws cells slots := fun H locs ls hN hP hD hS hl => va_gets F.1.1 F.1.2.1 (F.2.2.2.1 j _ hj).1 hS F.1.2.2.2.1 (F.1.2.2.2.2 _ hw) (fun _ h => h) hd (k H locs ls hN hP hD hS hl)
theorem tt_tald (F : FX p s m args meth c cc nL ret Ts own D cl cI cZ cJ SL A) {C n d : String} {t N : Nat} {f : Nat → Value} {z v : Int} (j : Nat) (hj : SL[j]? = some (C, n, d, t, N, f)) (h0 : 0 ≤ z) (h1 : z < N) (hN : N < 2147483648) (hv : f z.toNat = .int (iZ v)) (hd : decode cc pc = .ok (.iaload, 1)) (k : TT p l e R s m args below meth c D cl A nL ro Q (pc + 1) lv (.int (iZ v) :: st) ws cells slots) : TT p l e R s m args below meth c D cl A nL ro Q pc lv (.int (iZ z) :: .ref t :: st) ws cells slots := fun H locs ls hN hP hD hS hl => va_ti F.1.1 F.1.2.1 (F.2.2.2.1 j _ hj).2 hS (by have h2 := iZ_in (n := (N : Int)) h0 h1 (by omega); exact h2) (by rw [iZ_cl h0 (by omega)]; exact hv) hd (k H locs ls hN hP hD hS hl)
theorem tt_new (F : FX p s m args meth c cc nL ret Ts own D cl cI cZ cJ SL A) (hro : ¬ ro) {C : String} {T : u_T} {N ci ix : Nat} {fs : List Value} (hin : ∀ w ∈ u_ws C T N, w ∈ Ts) (ty : Nat → FieldType) (hty : ∀ k, k < N → parseFieldDescriptor (T k).2.2.1 = some (ty k)) (hw1 : Cond.classLink own ix C ∈ Ts) (hw2 : Cond.instantiable C N ∈ Ts) (hw3 : Cond.initialized C ∈ Ts) (hcl : cl[ci]? = some (C, T, N)) (hfs : ∀ j, j < N → defaultValue (ty j) = vp_V fs j) (hc : cells + 1 ≤ R.cells) (hs : slots + N ≤ R.slots) (hd : decode cc pc = .ok (.new ix, 3)) (k : ∀ q : Nat, TT p l e R s m args below meth c D cl A nL ro Q (pc + 3) lv (.ref q :: st) (ws ++ [(q, .inr (ci, fs))]) (cells + 1) (slots + N)) : TT p l e R s m args below meth c D cl A nL ro Q pc lv st ws cells slots := fun H locs ls hN hP hD hS hl => va_new F.1.1 F.1.2.1 F.1.2.2.2.2 hin ty hty F.1.2.2.2.1 (F.1.2.2.2.2 _ hw1) (F.1.2.2.2.2 _ hw2) (F.1.2.2.2.2 _ hw3) F.2.1 hP hD hS F.2.2.1 hcl hfs hc hs hd (fun q H hP hD hS => k q H locs ls (fun h => absurd h hro) hP hD hS hl)
theorem tt_obj (F : FX p s m args meth c cc nL ret Ts own D cl cI cZ cJ SL A) {ix a : Nat} (hw1 : Cond.methodLink own ix Lib.objectInit ∈ Ts) (hw2 : Cond.instanceMethod Lib.objectInit ∈ Ts) (hw3 : Cond.code Lib.objectInit ⟨#[0xb1]⟩ 1 none ∈ Ts) (hr : 1 ≤ R.frames) (hlo : (st.map fun v => v.category).sum + 12 ≤ R.locals) (hd : decode cc pc = .ok (.invokespecial ix, 3)) (k : TT p l e R s m args below meth c D cl A nL ro Q (pc + 3) lv st ws cells slots) : TT p l e R s m args below meth c D cl A nL ro Q pc lv (.ref a :: st) ws cells slots := fun H locs ls hN hP hD hS hl => W.objInit F.1.1 F.1.2.1 F.1.2.2.2.1 (F.1.2.2.2.2 _ hw1) (F.1.2.2.2.2 _ hw2) (F.1.2.2.2.2 _ hw3) rfl (hl.1.trans F.1.2.2.1.symm) rfl hd hr (by show 2 * 0 + _ + 12 ≤ _; omega) (k H locs ls hN hP hD hS hl)
theorem tt_wid {k n : Nat} (h1 : cells ≤ k) (h2 : slots ≤ n) (kk : TT p l e R s m args below meth c D cl A nL ro Q pc lv st ws k n) : TT p l e R s m args below meth c D cl A nL ro Q pc lv st ws cells slots := fun H locs ls hN hP hD hS hl => W.widen h1 h2 (kk H locs ls hN hP hD hS hl)
theorem tt_sub {lv' : List (Nat × Value)} (ks : List Nat) (hq : lv_pick lv ks = lv') (k : TT p l e R s m args below meth c D cl A nL ro Q pc lv' st ws cells slots) : TT p l e R s m args below meth c D cl A nL ro Q pc lv st ws cells slots := fun H locs ls hN hP hD hS hl => k H locs ls hN hP hD hS (lv_sub hl ks hq)
theorem tt_perm {ws' : va_W} (is : List Nat) (hn : va_nd is = true) (h1 : is.filterMap (fun i => ws[i]?) = ws') (h2 : is.map (fun i => ws[i]?) = ws'.map some) (k : TT p l e R s m args below meth c D cl A nL ro Q pc lv st ws' cells slots) : TT p l e R s m args below meth c D cl A nL ro Q pc lv st ws cells slots := fun H locs ls hN hP hD hS hl => k H locs ls hN (hP.sub is h1) (hD.sub is hn h2) hS hl
theorem tt_mmax (F : FX p s m args meth c cc nL ret Ts own D cl cI cZ cJ SL A) {ix : Nat} {a b : Int} (ha : ir a) (hb : ir b) (hw1 : Cond.methodLink own ix Lib.Math.max.name ∈ Ts) (hw2 : Cond.static Lib.Math.max.name ∈ Ts) (hw3 : Cond.initialized "java/lang/Math" ∈ Ts) (hw4 : Cond.code Lib.Math.max.name Lib.Math.max.code 2 (some .int) ∈ Ts) (hr : 1 ≤ R.frames) (hlo : (st.map fun v => v.category).sum + 13 ≤ R.locals) (hc : cells ≤ R.cells) (hs : slots ≤ R.slots) (hd : decode cc pc = .ok (.invokestatic ix, 3)) (k : TT p l e R s m args below meth c D cl A nL ro Q (pc + 3) lv (.int (iZ (if a < b then b else a)) :: st) ws cells slots) : TT p l e R s m args below meth c D cl A nL ro Q pc lv (.int (iZ b) :: .int (iZ a) :: st) ws cells slots := fun H locs ls hN hP hD hS hl => va_mmax F.1.1 F.1.2.1 (F.1.2.2.1.trans hl.1.symm) F.1.2.2.2.1 (F.1.2.2.2.2 _ hw1) (F.1.2.2.2.2 _ hw2) (F.1.2.2.2.2 _ hw3) (F.1.2.2.2.2 _ hw4) hr hlo hc hs hd (by have h2 := k H locs ls hN hP hD hS hl; simp only [iZ_lt ha hb]; rw [apply_ite iZ] at h2; exact h2)
theorem tt_mmin (F : FX p s m args meth c cc nL ret Ts own D cl cI cZ cJ SL A) {ix : Nat} {a b : Int} (ha : ir a) (hb : ir b) (hw1 : Cond.methodLink own ix Lib.Math.min.name ∈ Ts) (hw2 : Cond.static Lib.Math.min.name ∈ Ts) (hw3 : Cond.initialized "java/lang/Math" ∈ Ts) (hw4 : Cond.code Lib.Math.min.name Lib.Math.min.code 2 (some .int) ∈ Ts) (hr : 1 ≤ R.frames) (hlo : (st.map fun v => v.category).sum + 13 ≤ R.locals) (hc : cells ≤ R.cells) (hs : slots ≤ R.slots) (hd : decode cc pc = .ok (.invokestatic ix, 3)) (k : TT p l e R s m args below meth c D cl A nL ro Q (pc + 3) lv (.int (iZ (if b < a then b else a)) :: st) ws cells slots) : TT p l e R s m args below meth c D cl A nL ro Q pc lv (.int (iZ b) :: .int (iZ a) :: st) ws cells slots := fun H locs ls hN hP hD hS hl => va_mmin F.1.1 F.1.2.1 (F.1.2.2.1.trans hl.1.symm) F.1.2.2.2.1 (F.1.2.2.2.2 _ hw1) (F.1.2.2.2.2 _ hw2) (F.1.2.2.2.2 _ hw3) (F.1.2.2.2.2 _ hw4) hr hlo hc hs hd (by have h2 := k H locs ls hN hP hD hS hl; simp only [iZ_lt hb ha]; rw [apply_ite iZ] at h2; exact h2)
/-- contracts: the world before (w0), what is answered and the world behind it -/
def PW (D : va_G) (cl : List vw_C) (cI cZ cJ : ClassId) (SL : List zS) (av : List Value) (w0 : va_W) (sz : Nat) : Array Value → State → Prop := va_Pc av (fun U => U.heap.size = sz ∧ va_P D cl w0 U.heap ∧ va_K D cl (zT cI cZ cJ) U ∧ va_D (fun _ => True) w0 ∧ SF SL (va_A w0 sz) U U.heap)
def BW (D : va_G) (cl : List vw_C) (cI cZ cJ : ClassId) (w0 : va_W) (sz : Nat) (w1 : va_W) (t : State) : Prop := va_P D cl w1 t.heap ∧ va_K D cl (zT cI cZ cJ) t ∧ va_D (va_A w0 sz) w1
def QI (D : va_G) (cl : List vw_C) (cI cZ cJ : ClassId) (w0 : va_W) (post : Int → va_W → Prop) (sz : Nat) : Array Value → State → Outcome → State → Prop := va_Qi (fun r w1 => ∃ z, r = iZ z ∧ post z w1) (BW D cl cI cZ cJ w0 sz) (va_A w0 sz)
def QV (D : va_G) (cl : List vw_C) (cI cZ cJ : ClassId) (w0 : va_W) (post : va_W → Prop) (sz : Nat) : Array Value → State → Outcome → State → Prop := va_Qv post (BW D cl cI cZ cJ w0 sz) (va_A w0 sz)
def QR (D : va_G) (cl : List vw_C) (cI cZ cJ : ClassId) (w0 : va_W) (post : Nat → va_W → Prop) (sz : Nat) : Array Value → State → Outcome → State → Prop := va_Qr (fun _ => True) (fun w1 a t => post a w1 ∧ BW D cl cI cZ cJ w0 sz w1 t) (va_A w0 sz)
def CI (l : Launch) (D : va_G) (cl : List vw_C) (cI cZ cJ : ClassId) (SL : List zS) (y : MethodName) (wm : List Cond) (rm : Room) (av : List Value) (w0 : va_W) (post : Int → va_W → Prop) : Prop := ∀ sz : Nat, Met l y wm rm (PW D cl cI cZ cJ SL av w0 sz) (QI D cl cI cZ cJ w0 post sz) rm.cells rm.slots (va_A w0 sz)
def CV (l : Launch) (D : va_G) (cl : List vw_C) (cI cZ cJ : ClassId) (SL : List zS) (y : MethodName) (wm : List Cond) (rm : Room) (av : List Value) (w0 : va_W) (post : va_W → Prop) : Prop := ∀ sz : Nat, Met l y wm rm (PW D cl cI cZ cJ SL av w0 sz) (QV D cl cI cZ cJ w0 post sz) rm.cells rm.slots (va_A w0 sz)
def CR (l : Launch) (D : va_G) (cl : List vw_C) (cI cZ cJ : ClassId) (SL : List zS) (y : MethodName) (wm : List Cond) (rm : Room) (av : List Value) (w0 : va_W) (post : Nat → va_W → Prop) : Prop := ∀ sz : Nat, Met l y wm rm (PW D cl cI cZ cJ SL av w0 sz) (QR D cl cI cZ cJ w0 post sz) rm.cells rm.slots (va_A w0 sz)
theorem pw_blind (D : va_G) (cl : List vw_C) (cI cZ cJ : ClassId) (SL : List zS) (av : List Value) (w0 : va_W) (sz : Nat) : FrameBlind (PW D cl cI cZ cJ SL av w0 sz) :=
  fun a U g mk q => ⟨q.1, q.2.1, q.2.2.1, va_K.moved (u := U) (U := U.calling g mk a) (Vm.Alike.refl U.vm) q.2.2.2.1, q.2.2.2.2.1, q.2.2.2.2.2.go (U := U.calling g mk a) (Vm.Alike.refl U.vm) (fun _ _ _ => rfl) (fun _ h => h)⟩
theorem tj_C (wr w0 : va_W) : ((List.range w0.length).map (· + wr.length)).map (fun i => (wr ++ w0)[i]?) = w0.map some := by
  apply List.ext_getElem?
  intro i
  by_cases h : i < w0.length
  · simp [h, List.getElem?_append_right]
  · simp [h]
theorem tj_R (wr w0 : va_W) : (List.range wr.length).map (fun i => (wr ++ w0)[i]?) = wr.map some := by
  apply List.ext_getElem?
  intro i
  by_cases h : i < wr.length
  · simp [h, List.getElem?_append_left]
  · simp [h]
theorem tj_nd : ∀ l : List Nat, l.Nodup → va_nd l = true
  | [], _ => rfl
  | a :: l, h => by
    simp only [va_nd, Bool.and_eq_true, decide_eq_true_eq]
    exact ⟨(List.nodup_cons.mp h).1, tj_nd l (List.nodup_cons.mp h).2⟩
theorem tj_dis (wr w0 : va_W) : ∀ i ∈ List.range wr.length, i ∉ (List.range w0.length).map (· + wr.length) := by
  intro i hi h
  obtain ⟨j, -, rfl⟩ := List.mem_map.mp h
  have := List.mem_range.mp hi
  omega
/-- what a call needs of the caller's world: the callee's part of it stands at its end -/
theorem tj_pre {wr w0 : va_W} {H : Heap} {locs : List Loc} {U : State} {av : List Value} (F : FX p s m args meth c cc nL ret Ts own D cl cI cZ cJ SL A) (hP : va_P D cl (wr ++ w0) H) (hD : va_D A (wr ++ w0)) (hS : va_S A s.heap H locs) (hU : U.heap = H) (hW : s.WarmedH U.vm) : PW D cl cI cZ cJ SL av w0 H.size av.toArray U := by
  have hF := va_free hD hS F.2.2.1 _ (tj_C wr w0)
  refine ⟨rfl, by rw [hU], ?_, va_K.moved hW.alike F.2.1, ?_, F.2.2.2.1.go hW.alike (fun a h1 h2 => by rw [hU]; exact hS.2.1 a h1 h2) hF⟩
  · rw [hU]
    intro k q hk
    exact hP (wr.length + k) q (by rw [List.getElem?_append_right (by omega)]; simpa using hk)
  · refine ⟨fun i j x y hi hj hxy => ?_, fun _ _ _ => trivial⟩
    have h3 := hD.1 (wr.length + i) (wr.length + j) x y (by rw [List.getElem?_append_right (by omega)]; simpa using hi) (by rw [List.getElem?_append_right (by omega)]; simpa using hj) hxy
    omega
theorem tj_recv {wr w0 : va_W} {H : Heap} {b ci q0 N : Nat} {C : String} {T : u_T} {fs : List Value} (F : FX p s m args meth c cc nL ret Ts own D cl cI cZ cJ SL A) (hP : va_P D cl (wr ++ w0) H) (he : w0[q0]? = some (b, .inr (ci, fs))) (hc : cl[ci]? = some (C, T, N)) : ∃ cell : Cell, H[b]? = some cell ∧ cell.vm.isStatics = false ∧ s.vm.findClass C = some cell.cls :=
  va_recv (q := (C, T, N)) F.2.1 hP hc (q0 := wr.length + q0) (fs := fs) (by rw [List.getElem?_append_right (by omega)]; simpa using he)

theorem tt_cIV (F : FX p s m args meth c cc nL ret Ts own D cl cI cZ cJ SL A) (hro : ¬ ro) {y : MethodName} {bytes : ByteArray} {maxL n ix : Nat} {rt : Option FieldType} {wm : List Cond} {rm : Room} {As : List Value} {w0 : va_W} {post : Int → va_W → Prop} {st0 : List Value} (wr : va_W) {C : String} {T : u_T} {N ci b : Nat} {fs : List Value} (q0 : Nat) (he : w0[q0]? = some (b, .inr (ci, fs))) (hcl : cl[ci]? = some (C, T, N)) (hM : CI l D cl cI cZ cJ SL y wm rm (.ref b :: As) w0 post) (cw : CallW R s args own C ix y bytes maxL rt wm rm rm.cells rm.slots n) (hw : ws = wr ++ w0) (hn : As.length = n) (hst : st0 = As.reverse ++ .ref b :: st) (hW : (st.map fun v => v.category).sum ≤ 8) (hf : cells + rm.cells ≤ R.cells ∧ slots + rm.slots ≤ R.slots) (hd : decode cc pc = .ok (.invokevirtual ix, 3)) (k : ∀ (z : Int) (w1 : va_W), post z w1 → TT p l e R s m args below meth c D cl A nL ro Q (pc + 3) lv (.int (iZ z) :: st) (wr ++ w1) (cells + rm.cells) (slots + rm.slots)) : TT p l e R s m args below meth c D cl A nL ro Q pc lv st0 ws cells slots := by
  intro H locs ls hN hP hD hS hl
  subst hw
  have hF := va_free hD hS F.2.2.1 _ (tj_C wr w0)
  refine va_calli (va_runV (As := As) (rest := st) F.1 (hM H.size) cw ⟨pw_blind D cl cI cZ cJ SL _ w0 H.size, tj_recv F hP he hcl, fun U hU hW => tj_pre F hP hD hS hU hW⟩ rfl hn hl.1 hst (lv_room hW) hd hf) hS (fun q _ h => hF q h) hF (fun r w1 t H1 locs1 ht hvm hp hB hz1 hk1 hS1 => ?_)
  obtain ⟨z, rfl, hp⟩ := hp
  obtain ⟨hP1, hK1, hD1⟩ := hB
  rw [ht] at hP1
  obtain ⟨hP2, hD2⟩ := va_join hP hD _ _ (tj_C wr w0) (tj_R wr w0) (tj_nd _ List.nodup_range) (tj_dis wr w0) hk1 hF hP1 hD1
  exact k z w1 hp H1 locs1 ls (fun h => absurd h hro) hP2 hD2 hS1 hl
theorem tt_cIV0 (F : FX p s m args meth c cc nL ret Ts own D cl cI cZ cJ SL A) (hro : ¬ ro) {y : MethodName} {bytes : ByteArray} {maxL n ix : Nat} {rt : Option FieldType} {wm : List Cond} {rm : Room} {As : List Value} {w0 : va_W} {post : Int → va_W → Prop} {st0 : List Value} {C : String} {T : u_T} {N ci b : Nat} {fs : List Value} (q0 : Nat) (he : w0[q0]? = some (b, .inr (ci, fs))) (hcl : cl[ci]? = some (C, T, N)) (hM : CI l D cl cI cZ cJ SL y wm rm (.ref b :: As) w0 post) (cw : CallW R s args own C ix y bytes maxL rt wm rm rm.cells rm.slots n) (hw : ws = w0) (hn : As.length = n) (hst : st0 = As.reverse ++ .ref b :: st) (hW : (st.map fun v => v.category).sum ≤ 8) (hf : cells + rm.cells ≤ R.cells ∧ slots + rm.slots ≤ R.slots) (hd : decode cc pc = .ok (.invokevirtual ix, 3)) (k : ∀ (z : Int) (w1 : va_W), post z w1 → TT p l e R s m args below meth c D cl A nL ro Q (pc + 3) lv (.int (iZ z) :: st) w1 (cells + rm.cells) (slots + rm.slots)) : TT p l e R s m args below meth c D cl A nL ro Q pc lv st0 ws cells slots := tt_cIV F hro [] q0 he hcl hM cw hw hn hst hW hf hd k
theorem tt_cIS (F : FX p s m args meth c cc nL ret Ts own D cl cI cZ cJ SL A) (hro : ¬ ro) {y : MethodName} {bytes : ByteArray} {maxL n ix : Nat} {rt : Option FieldType} {wm : List Cond} {rm : Room} {As : List Value} {w0 : va_W} {post : Int → va_W → Prop} {st0 : List Value} (wr : va_W) (hM : CI l D cl cI cZ cJ SL y wm rm As w0 post) (cw : (CallB R s args own ix y bytes maxL rt wm rm rm.cells rm.slots n ∧ (Cond.static y).before args s = true)) (hw : ws = wr ++ w0) (hn : As.length = n) (hst : st0 = As.reverse ++ st) (hW : (st.map fun v => v.category).sum ≤ 8) (hf : cells + rm.cells ≤ R.cells ∧ slots + rm.slots ≤ R.slots) (hd : decode cc pc = .ok (.invokestatic ix, 3)) (k : ∀ (z : Int) (w1 : va_W), post z w1 → TT p l e R s m args below meth c D cl A nL ro Q (pc + 3) lv (.int (iZ z) :: st) (wr ++ w1) (cells + rm.cells) (slots + rm.slots)) : TT p l e R s m args below meth c D cl A nL ro Q pc lv st0 ws cells slots := by
  intro H locs ls hN hP hD hS hl
  subst hw
  have hF := va_free hD hS F.2.2.1 _ (tj_C wr w0)
  refine va_calli (va_runS (As := As) (rest := st) F.1 (hM H.size) cw ⟨pw_blind D cl cI cZ cJ SL _ w0 H.size, fun U hU hW => tj_pre F hP hD hS hU hW⟩ rfl hn hl.1 hst (lv_room hW) hd hf) hS (fun q _ h => hF q h) hF (fun r w1 t H1 locs1 ht hvm hp hB hz1 hk1 hS1 => ?_)
  obtain ⟨z, rfl, hp⟩ := hp
  obtain ⟨hP1, hK1, hD1⟩ := hB
  rw [ht] at hP1
  obtain ⟨hP2, hD2⟩ := va_join hP hD _ _ (tj_C wr w0) (tj_R wr w0) (tj_nd _ List.nodup_range) (tj_dis wr w0) hk1 hF hP1 hD1
  exact k z w1 hp H1 locs1 ls (fun h => absurd h hro) hP2 hD2 hS1 hl
theorem tt_cIS0 (F : FX p s m args meth c cc nL ret Ts own D cl cI cZ cJ SL A) (hro : ¬ ro) {y : MethodName} {bytes : ByteArray} {maxL n ix : Nat} {rt : Option FieldType} {wm : List Cond} {rm : Room} {As : List Value} {w0 : va_W} {post : Int → va_W → Prop} {st0 : List Value} (hM : CI l D cl cI cZ cJ SL y wm rm As w0 post) (cw : (CallB R s args own ix y bytes maxL rt wm rm rm.cells rm.slots n ∧ (Cond.static y).before args s = true)) (hw : ws = w0) (hn : As.length = n) (hst : st0 = As.reverse ++ st) (hW : (st.map fun v => v.category).sum ≤ 8) (hf : cells + rm.cells ≤ R.cells ∧ slots + rm.slots ≤ R.slots) (hd : decode cc pc = .ok (.invokestatic ix, 3)) (k : ∀ (z : Int) (w1 : va_W), post z w1 → TT p l e R s m args below meth c D cl A nL ro Q (pc + 3) lv (.int (iZ z) :: st) w1 (cells + rm.cells) (slots + rm.slots)) : TT p l e R s m args below meth c D cl A nL ro Q pc lv st0 ws cells slots := tt_cIS F hro [] hM cw hw hn hst hW hf hd k
theorem tt_cVV (F : FX p s m args meth c cc nL ret Ts own D cl cI cZ cJ SL A) (hro : ¬ ro) {y : MethodName} {bytes : ByteArray} {maxL n ix : Nat} {rt : Option FieldType} {wm : List Cond} {rm : Room} {As : List Value} {w0 : va_W} {post : va_W → Prop} {st0 : List Value} (wr : va_W) {C : String} {T : u_T} {N ci b : Nat} {fs : List Value} (q0 : Nat) (he : w0[q0]? = some (b, .inr (ci, fs))) (hcl : cl[ci]? = some (C, T, N)) (hM : CV l D cl cI cZ cJ SL y wm rm (.ref b :: As) w0 post) (cw : CallW R s args own C ix y bytes maxL rt wm rm rm.cells rm.slots n) (hw : ws = wr ++ w0) (hn : As.length = n) (hst : st0 = As.reverse ++ .ref b :: st) (hW : (st.map fun v => v.category).sum ≤ 8) (hf : cells + rm.cells ≤ R.cells ∧ slots + rm.slots ≤ R.slots) (hd : decode cc pc = .ok (.invokevirtual ix, 3)) (k : ∀ (w1 : va_W), post w1 → TT p l e R s m args below meth c D cl A nL ro Q (pc + 3) lv st (wr ++ w1) (cells + rm.cells) (slots + rm.slots)) : TT p l e R s m args below meth c D cl A nL ro Q pc lv st0 ws cells slots := by
  intro H locs ls hN hP hD hS hl
  subst hw
  have hF := va_free hD hS F.2.2.1 _ (tj_C wr w0)
  refine va_callv (va_runV (As := As) (rest := st) F.1 (hM H.size) cw ⟨pw_blind D cl cI cZ cJ SL _ w0 H.size, tj_recv F hP he hcl, fun U hU hW => tj_pre F hP hD hS hU hW⟩ rfl hn hl.1 hst (lv_room hW) hd hf) hS (fun q _ h => hF q h) hF (fun w1 t H1 locs1 ht hvm hp hB hz1 hk1 hS1 => ?_)
  obtain ⟨hP1, hK1, hD1⟩ := hB
  rw [ht] at hP1
  obtain ⟨hP2, hD2⟩ := va_join hP hD _ _ (tj_C wr w0) (tj_R wr w0) (tj_nd _ List.nodup_range) (tj_dis wr w0) hk1 hF hP1 hD1
  exact k w1 hp H1 locs1 ls (fun h => absurd h hro) hP2 hD2 hS1 hl
theorem tt_cVV0 (F : FX p s m args meth c cc nL ret Ts own D cl cI cZ cJ SL A) (hro : ¬ ro) {y : MethodName} {bytes : ByteArray} {maxL n ix : Nat} {rt : Option FieldType} {wm : List Cond} {rm : Room} {As : List Value} {w0 : va_W} {post : va_W → Prop} {st0 : List Value} {C : String} {T : u_T} {N ci b : Nat} {fs : List Value} (q0 : Nat) (he : w0[q0]? = some (b, .inr (ci, fs))) (hcl : cl[ci]? = some (C, T, N)) (hM : CV l D cl cI cZ cJ SL y wm rm (.ref b :: As) w0 post) (cw : CallW R s args own C ix y bytes maxL rt wm rm rm.cells rm.slots n) (hw : ws = w0) (hn : As.length = n) (hst : st0 = As.reverse ++ .ref b :: st) (hW : (st.map fun v => v.category).sum ≤ 8) (hf : cells + rm.cells ≤ R.cells ∧ slots + rm.slots ≤ R.slots) (hd : decode cc pc = .ok (.invokevirtual ix, 3)) (k : ∀ (w1 : va_W), post w1 → TT p l e R s m args below meth c D cl A nL ro Q (pc + 3) lv st w1 (cells + rm.cells) (slots + rm.slots)) : TT p l e R s m args below meth c D cl A nL ro Q pc lv st0 ws cells slots := tt_cVV F hro [] q0 he hcl hM cw hw hn hst hW hf hd k
theorem tt_cVS (F : FX p s m args meth c cc nL ret Ts own D cl cI cZ cJ SL A) (hro : ¬ ro) {y : MethodName} {bytes : ByteArray} {maxL n ix : Nat} {rt : Option FieldType} {wm : List Cond} {rm : Room} {As : List Value} {w0 : va_W} {post : va_W → Prop} {st0 : List Value} (wr : va_W) (hM : CV l D cl cI cZ cJ SL y wm rm As w0 post) (cw : (CallB R s args own ix y bytes maxL rt wm rm rm.cells rm.slots n ∧ (Cond.static y).before args s = true)) (hw : ws = wr ++ w0) (hn : As.length = n) (hst : st0 = As.reverse ++ st) (hW : (st.map fun v => v.category).sum ≤ 8) (hf : cells + rm.cells ≤ R.cells ∧ slots + rm.slots ≤ R.slots) (hd : decode cc pc = .ok (.invokestatic ix, 3)) (k : ∀ (w1 : va_W), post w1 → TT p l e R s m args below meth c D cl A nL ro Q (pc + 3) lv st (wr ++ w1) (cells + rm.cells) (slots + rm.slots)) : TT p l e R s m args below meth c D cl A nL ro Q pc lv st0 ws cells slots := by
  intro H locs ls hN hP hD hS hl
  subst hw
  have hF := va_free hD hS F.2.2.1 _ (tj_C wr w0)
  refine va_callv (va_runS (As := As) (rest := st) F.1 (hM H.size) cw ⟨pw_blind D cl cI cZ cJ SL _ w0 H.size, fun U hU hW => tj_pre F hP hD hS hU hW⟩ rfl hn hl.1 hst (lv_room hW) hd hf) hS (fun q _ h => hF q h) hF (fun w1 t H1 locs1 ht hvm hp hB hz1 hk1 hS1 => ?_)
  obtain ⟨hP1, hK1, hD1⟩ := hB
  rw [ht] at hP1
  obtain ⟨hP2, hD2⟩ := va_join hP hD _ _ (tj_C wr w0) (tj_R wr w0) (tj_nd _ List.nodup_range) (tj_dis wr w0) hk1 hF hP1 hD1
  exact k w1 hp H1 locs1 ls (fun h => absurd h hro) hP2 hD2 hS1 hl
theorem tt_cVS0 (F : FX p s m args meth c cc nL ret Ts own D cl cI cZ cJ SL A) (hro : ¬ ro) {y : MethodName} {bytes : ByteArray} {maxL n ix : Nat} {rt : Option FieldType} {wm : List Cond} {rm : Room} {As : List Value} {w0 : va_W} {post : va_W → Prop} {st0 : List Value} (hM : CV l D cl cI cZ cJ SL y wm rm As w0 post) (cw : (CallB R s args own ix y bytes maxL rt wm rm rm.cells rm.slots n ∧ (Cond.static y).before args s = true)) (hw : ws = w0) (hn : As.length = n) (hst : st0 = As.reverse ++ st) (hW : (st.map fun v => v.category).sum ≤ 8) (hf : cells + rm.cells ≤ R.cells ∧ slots + rm.slots ≤ R.slots) (hd : decode cc pc = .ok (.invokestatic ix, 3)) (k : ∀ (w1 : va_W), post w1 → TT p l e R s m args below meth c D cl A nL ro Q (pc + 3) lv st w1 (cells + rm.cells) (slots + rm.slots)) : TT p l e R s m args below meth c D cl A nL ro Q pc lv st0 ws cells slots := tt_cVS F hro [] hM cw hw hn hst hW hf hd k
theorem tt_cVI (F : FX p s m args meth c cc nL ret Ts own D cl cI cZ cJ SL A) (hro : ¬ ro) {y : MethodName} {bytes : ByteArray} {maxL n ix : Nat} {wm : List Cond} {rm : Room} {As : List Value} {w0 : va_W} {post : va_W → Prop} {st0 : List Value} (wr : va_W) {b : Nat} (hM : CV l D cl cI cZ cJ SL y wm rm (.ref b :: As) w0 post) (cw : (CallB R s args own ix y bytes maxL none wm rm rm.cells rm.slots n ∧ y.name = "<init>" ∧ (Cond.instanceMethod y).before args s = true)) (hw : ws = wr ++ w0) (hn : As.length = n) (hst : st0 = As.reverse ++ .ref b :: st) (hW : (st.map fun v => v.category).sum ≤ 8) (hf : cells + rm.cells ≤ R.cells ∧ slots + rm.slots ≤ R.slots) (hd : decode cc pc = .ok (.invokespecial ix, 3)) (k : ∀ (w1 : va_W), post w1 → TT p l e R s m args below meth c D cl A nL ro Q (pc + 3) lv st (wr ++ w1) (cells + rm.cells) (slots + rm.slots)) : TT p l e R s m args below meth c D cl A nL ro Q pc lv st0 ws cells slots := by
  intro H locs ls hN hP hD hS hl
  subst hw
  have hF := va_free hD hS F.2.2.1 _ (tj_C wr w0)
  refine va_callv (va_runI (As := As) (rest := st) F.1 (hM H.size) cw ⟨pw_blind D cl cI cZ cJ SL _ w0 H.size, fun U hU hW => tj_pre F hP hD hS hU hW⟩ rfl hn hl.1 hst (lv_room hW) hd hf) hS (fun q _ h => hF q h) hF (fun w1 t H1 locs1 ht hvm hp hB hz1 hk1 hS1 => ?_)
  obtain ⟨hP1, hK1, hD1⟩ := hB
  rw [ht] at hP1
  obtain ⟨hP2, hD2⟩ := va_join hP hD _ _ (tj_C wr w0) (tj_R wr w0) (tj_nd _ List.nodup_range) (tj_dis wr w0) hk1 hF hP1 hD1
  exact k w1 hp H1 locs1 ls (fun h => absurd h hro) hP2 hD2 hS1 hl
theorem tt_cVI0 (F : FX p s m args meth c cc nL ret Ts own D cl cI cZ cJ SL A) (hro : ¬ ro) {y : MethodName} {bytes : ByteArray} {maxL n ix : Nat} {wm : List Cond} {rm : Room} {As : List Value} {w0 : va_W} {post : va_W → Prop} {st0 : List Value} {b : Nat} (hM : CV l D cl cI cZ cJ SL y wm rm (.ref b :: As) w0 post) (cw : (CallB R s args own ix y bytes maxL none wm rm rm.cells rm.slots n ∧ y.name = "<init>" ∧ (Cond.instanceMethod y).before args s = true)) (hw : ws = w0) (hn : As.length = n) (hst : st0 = As.reverse ++ .ref b :: st) (hW : (st.map fun v => v.category).sum ≤ 8) (hf : cells + rm.cells ≤ R.cells ∧ slots + rm.slots ≤ R.slots) (hd : decode cc pc = .ok (.invokespecial ix, 3)) (k : ∀ (w1 : va_W), post w1 → TT p l e R s m args below meth c D cl A nL ro Q (pc + 3) lv st w1 (cells + rm.cells) (slots + rm.slots)) : TT p l e R s m args below meth c D cl A nL ro Q pc lv st0 ws cells slots := tt_cVI F hro [] hM cw hw hn hst hW hf hd k
theorem tt_cRV (F : FX p s m args meth c cc nL ret Ts own D cl cI cZ cJ SL A) (hro : ¬ ro) {y : MethodName} {bytes : ByteArray} {maxL n ix : Nat} {rt : Option FieldType} {wm : List Cond} {rm : Room} {As : List Value} {w0 : va_W} {post : Nat → va_W → Prop} {st0 : List Value} (wr : va_W) {C : String} {T : u_T} {N ci b : Nat} {fs : List Value} (q0 : Nat) (he : w0[q0]? = some (b, .inr (ci, fs))) (hcl : cl[ci]? = some (C, T, N)) (hM : CR l D cl cI cZ cJ SL y wm rm (.ref b :: As) w0 post) (cw : CallW R s args own C ix y bytes maxL rt wm rm rm.cells rm.slots n) (hw : ws = wr ++ w0) (hn : As.length = n) (hst : st0 = As.reverse ++ .ref b :: st) (hW : (st.map fun v => v.category).sum ≤ 8) (hf : cells + rm.cells ≤ R.cells ∧ slots + rm.slots ≤ R.slots) (hd : decode cc pc = .ok (.invokevirtual ix, 3)) (k : ∀ (a : Nat) (w1 : va_W), post a w1 → TT p l e R s m args below meth c D cl A nL ro Q (pc + 3) lv (.ref a :: st) (wr ++ w1) (cells + rm.cells) (slots + rm.slots)) : TT p l e R s m args below meth c D cl A nL ro Q pc lv st0 ws cells slots := by
  intro H locs ls hN hP hD hS hl
  subst hw
  have hF := va_free hD hS F.2.2.1 _ (tj_C wr w0)
  refine va_callr (va_runV (As := As) (rest := st) F.1 (hM H.size) cw ⟨pw_blind D cl cI cZ cJ SL _ w0 H.size, tj_recv F hP he hcl, fun U hU hW => tj_pre F hP hD hS hU hW⟩ rfl hn hl.1 hst (lv_room hW) hd hf) hS (fun q _ h => hF q h) hF (fun w1 ra t H1 locs1 ht hvm _ hB hz1 hk1 hS1 => ?_)
  obtain ⟨hp, hP1, hK1, hD1⟩ := hB
  rw [ht] at hP1
  obtain ⟨hP2, hD2⟩ := va_join hP hD _ _ (tj_C wr w0) (tj_R wr w0) (tj_nd _ List.nodup_range) (tj_dis wr w0) hk1 hF hP1 hD1
  exact k ra w1 hp H1 locs1 ls (fun h => absurd h hro) hP2 hD2 hS1 hl
theorem tt_cRV0 (F : FX p s m args meth c cc nL ret Ts own D cl cI cZ cJ SL A) (hro : ¬ ro) {y : MethodName} {bytes : ByteArray} {maxL n ix : Nat} {rt : Option FieldType} {wm : List Cond} {rm : Room} {As : List Value} {w0 : va_W} {post : Nat → va_W → Prop} {st0 : List Value} {C : String} {T : u_T} {N ci b : Nat} {fs : List Value} (q0 : Nat) (he : w0[q0]? = some (b, .inr (ci, fs))) (hcl : cl[ci]? = some (C, T, N)) (hM : CR l D cl cI cZ cJ SL y wm rm (.ref b :: As) w0 post) (cw : CallW R s args own C ix y bytes maxL rt wm rm rm.cells rm.slots n) (hw : ws = w0) (hn : As.length = n) (hst : st0 = As.reverse ++ .ref b :: st) (hW : (st.map fun v => v.category).sum ≤ 8) (hf : cells + rm.cells ≤ R.cells ∧ slots + rm.slots ≤ R.slots) (hd : decode cc pc = .ok (.invokevirtual ix, 3)) (k : ∀ (a : Nat) (w1 : va_W), post a w1 → TT p l e R s m args below meth c D cl A nL ro Q (pc + 3) lv (.ref a :: st) w1 (cells + rm.cells) (slots + rm.slots)) : TT p l e R s m args below meth c D cl A nL ro Q pc lv st0 ws cells slots := tt_cRV F hro [] q0 he hcl hM cw hw hn hst hW hf hd k
theorem tt_cRS (F : FX p s m args meth c cc nL ret Ts own D cl cI cZ cJ SL A) (hro : ¬ ro) {y : MethodName} {bytes : ByteArray} {maxL n ix : Nat} {rt : Option FieldType} {wm : List Cond} {rm : Room} {As : List Value} {w0 : va_W} {post : Nat → va_W → Prop} {st0 : List Value} (wr : va_W) (hM : CR l D cl cI cZ cJ SL y wm rm As w0 post) (cw : (CallB R s args own ix y bytes maxL rt wm rm rm.cells rm.slots n ∧ (Cond.static y).before args s = true)) (hw : ws = wr ++ w0) (hn : As.length = n) (hst : st0 = As.reverse ++ st) (hW : (st.map fun v => v.category).sum ≤ 8) (hf : cells + rm.cells ≤ R.cells ∧ slots + rm.slots ≤ R.slots) (hd : decode cc pc = .ok (.invokestatic ix, 3)) (k : ∀ (a : Nat) (w1 : va_W), post a w1 → TT p l e R s m args below meth c D cl A nL ro Q (pc + 3) lv (.ref a :: st) (wr ++ w1) (cells + rm.cells) (slots + rm.slots)) : TT p l e R s m args below meth c D cl A nL ro Q pc lv st0 ws cells slots := by
  intro H locs ls hN hP hD hS hl
  subst hw
  have hF := va_free hD hS F.2.2.1 _ (tj_C wr w0)
  refine va_callr (va_runS (As := As) (rest := st) F.1 (hM H.size) cw ⟨pw_blind D cl cI cZ cJ SL _ w0 H.size, fun U hU hW => tj_pre F hP hD hS hU hW⟩ rfl hn hl.1 hst (lv_room hW) hd hf) hS (fun q _ h => hF q h) hF (fun w1 ra t H1 locs1 ht hvm _ hB hz1 hk1 hS1 => ?_)
  obtain ⟨hp, hP1, hK1, hD1⟩ := hB
  rw [ht] at hP1
  obtain ⟨hP2, hD2⟩ := va_join hP hD _ _ (tj_C wr w0) (tj_R wr w0) (tj_nd _ List.nodup_range) (tj_dis wr w0) hk1 hF hP1 hD1
  exact k ra w1 hp H1 locs1 ls (fun h => absurd h hro) hP2 hD2 hS1 hl
theorem tt_cRS0 (F : FX p s m args meth c cc nL ret Ts own D cl cI cZ cJ SL A) (hro : ¬ ro) {y : MethodName} {bytes : ByteArray} {maxL n ix : Nat} {rt : Option FieldType} {wm : List Cond} {rm : Room} {As : List Value} {w0 : va_W} {post : Nat → va_W → Prop} {st0 : List Value} (hM : CR l D cl cI cZ cJ SL y wm rm As w0 post) (cw : (CallB R s args own ix y bytes maxL rt wm rm rm.cells rm.slots n ∧ (Cond.static y).before args s = true)) (hw : ws = w0) (hn : As.length = n) (hst : st0 = As.reverse ++ st) (hW : (st.map fun v => v.category).sum ≤ 8) (hf : cells + rm.cells ≤ R.cells ∧ slots + rm.slots ≤ R.slots) (hd : decode cc pc = .ok (.invokestatic ix, 3)) (k : ∀ (a : Nat) (w1 : va_W), post a w1 → TT p l e R s m args below meth c D cl A nL ro Q (pc + 3) lv (.ref a :: st) w1 (cells + rm.cells) (slots + rm.slots)) : TT p l e R s m args below meth c D cl A nL ro Q pc lv st0 ws cells slots := tt_cRS F hro [] hM cw hw hn hst hW hf hd k
theorem tt_iret {w0 : va_W} {post : Int → va_W → Prop} {mc ms : Nat} {z : Int} (F : FX p s m args meth c cc nL ret Ts own D cl cI cZ cJ SL (va_A w0 s.heap.size)) (hr : ret = some .int) (hc : cells ≤ mc) (hs : slots ≤ ms) (hd : decode cc pc = .ok (.ireturn, 1)) (hp : post z ws) : TT p l e R s m args below meth c D cl (va_A w0 s.heap.size) nL ro (MQ below (QI D cl cI cZ cJ w0 post s.heap.size) args s mc ms (va_A w0 s.heap.size)) pc lv [.int (iZ z)] ws cells slots :=
  fun H locs ls hN hP hD hS hl => W.widen hc hs (W.iret F.1.1 F.1.2.1 (F.2.2.2.2.1.trans hr) (fun t ht hw => ⟨⟨iZ z, ws, rfl, ⟨z, rfl, hp⟩, by rw [ht]; exact hP, va_K.moved hw.alike F.2.1, hD⟩, hS.F ht⟩) (fun q hq => hS.2.2 q hq) hd F.2.2.2.2.2)
theorem tt_zret {w0 : va_W} {post : Int → va_W → Prop} {mc ms : Nat} {z : Int} (F : FX p s m args meth c cc nL ret Ts own D cl cI cZ cJ SL (va_A w0 s.heap.size)) (hr : ret = some .boolean) (hz : z = 0 ∨ z = 1) (hc : cells ≤ mc) (hs : slots ≤ ms) (hd : decode cc pc = .ok (.ireturn, 1)) (hp : post z ws) : TT p l e R s m args below meth c D cl (va_A w0 s.heap.size) nL ro (MQ below (QI D cl cI cZ cJ w0 post s.heap.size) args s mc ms (va_A w0 s.heap.size)) pc lv [.int (iZ z)] ws cells slots :=
  fun H locs ls hN hP hD hS hl => W.widen hc hs (W.zret F.1.1 F.1.2.1 (F.2.2.2.2.1.trans hr) (iZ_narrowZ hz) (fun t ht hw => ⟨⟨iZ z, ws, rfl, ⟨z, rfl, hp⟩, by rw [ht]; exact hP, va_K.moved hw.alike F.2.1, hD⟩, hS.F ht⟩) (fun q hq => hS.2.2 q hq) hd F.2.2.2.2.2)
theorem tt_vret {w0 : va_W} {post : va_W → Prop} {mc ms : Nat} (F : FX p s m args meth c cc nL ret Ts own D cl cI cZ cJ SL (va_A w0 s.heap.size)) (hr : ret = none) (hc : cells ≤ mc) (hs : slots ≤ ms) (hd : decode cc pc = .ok (.return_, 1)) (hp : post ws) : TT p l e R s m args below meth c D cl (va_A w0 s.heap.size) nL ro (MQ below (QV D cl cI cZ cJ w0 post s.heap.size) args s mc ms (va_A w0 s.heap.size)) pc lv [] ws cells slots :=
  fun H locs ls hN hP hD hS hl => W.widen hc hs (W.vret F.1.1 F.1.2.1 (F.2.2.2.2.1.trans hr) (fun t ht hw => ⟨⟨ws, rfl, hp, by rw [ht]; exact hP, va_K.moved hw.alike F.2.1, hD⟩, hS.F ht⟩) (fun q hq => hS.2.2 q hq) hd F.2.2.2.2.2)
theorem tt_aret {w0 : va_W} {post : Nat → va_W → Prop} {mc ms a : Nat} {rt : FieldType} (F : FX p s m args meth c cc nL ret Ts own D cl cI cZ cJ SL (va_A w0 s.heap.size)) (hr : ret = some rt) (hrt : (∃ n, rt = .object n) ∨ ∃ t, rt = .array t) (hc : cells ≤ mc) (hs : slots ≤ ms) (hd : decode cc pc = .ok (.areturn, 1)) (hp : post a ws) : TT p l e R s m args below meth c D cl (va_A w0 s.heap.size) nL ro (MQ below (QR D cl cI cZ cJ w0 post s.heap.size) args s mc ms (va_A w0 s.heap.size)) pc lv [.ref a] ws cells slots :=
  fun H locs ls hN hP hD hS hl => W.widen hc hs (W.aret F.1.1 F.1.2.1 (F.2.2.2.2.1.trans hr) hrt (Or.inr ⟨a, rfl⟩) (fun t ht hw => ⟨⟨ws, a, rfl, trivial, hp, by rw [ht]; exact hP, va_K.moved hw.alike F.2.1, hD⟩, hS.F ht⟩) (fun q hq => hS.2.2 q hq) hd F.2.2.2.2.2)
theorem tt_startI {y : MethodName} {wm wm' : List Cond} {rm : Room} {av : List Value} {w0 : va_W} {post : Int → va_W → Prop} (hy : plainName y.cls = true) (hw : wm = Cond.code y cc nL ret :: wm') (hsl : (lg_sl av).length ≤ nL)
    (body : ∀ (p : Program) (e : Env) (s : State) (m : MethodId) (args : Array Value) (below : List Frame) (meth : Method) (c : Code), meth.name = y.name → FX p s m args meth c cc nL ret wm y.cls D cl cI cZ cJ SL (va_A w0 s.heap.size) → TT p l e rm s m args below meth c D cl (va_A w0 s.heap.size) nL False (MQ below (QI D cl cI cZ cJ w0 post s.heap.size) args s rm.cells rm.slots (va_A w0 s.heap.size)) 0 (lv_args 0 av) [] w0 0 0) : CI l D cl cI cZ cJ SL y wm rm av w0 post := by
  intro sz
  refine Met.ofW (cc := cc) (maxL := nL) (ret := ret) hy hw ?_
  intro p e s m args below meth c s₁ B hml hv
  obtain ⟨rfl, rfl, hP, hK, hD, hSF⟩ := hv
  have hown := findClass_of_methodNamed B.named
  have hts : ∀ w ∈ wm, w.before av.toArray s = true := atoms_spec B.pre
  have hl := lv_entry av (n := nL) hsl
  rw [lg_entry_eq]
  exact body p e s m _ below meth c (name_of_methodNamed B.named B.method).1 ⟨⟨B.exec, B.bytes, hml, hown, hts⟩, hK, fun q h => Or.inr h, hSF, B.returns, B.notSynchronized⟩ s.heap [] _ (fun h => absurd h id) hP hD.self va_S.rf hl
theorem tt_startV {y : MethodName} {wm wm' : List Cond} {rm : Room} {av : List Value} {w0 : va_W} {post : va_W → Prop} (hy : plainName y.cls = true) (hw : wm = Cond.code y cc nL ret :: wm') (hsl : (lg_sl av).length ≤ nL)
    (body : ∀ (p : Program) (e : Env) (s : State) (m : MethodId) (args : Array Value) (below : List Frame) (meth : Method) (c : Code), meth.name = y.name → FX p s m args meth c cc nL ret wm y.cls D cl cI cZ cJ SL (va_A w0 s.heap.size) → TT p l e rm s m args below meth c D cl (va_A w0 s.heap.size) nL False (MQ below (QV D cl cI cZ cJ w0 post s.heap.size) args s rm.cells rm.slots (va_A w0 s.heap.size)) 0 (lv_args 0 av) [] w0 0 0) : CV l D cl cI cZ cJ SL y wm rm av w0 post := by
  intro sz
  refine Met.ofW (cc := cc) (maxL := nL) (ret := ret) hy hw ?_
  intro p e s m args below meth c s₁ B hml hv
  obtain ⟨rfl, rfl, hP, hK, hD, hSF⟩ := hv
  have hown := findClass_of_methodNamed B.named
  have hts : ∀ w ∈ wm, w.before av.toArray s = true := atoms_spec B.pre
  have hl := lv_entry av (n := nL) hsl
  rw [lg_entry_eq]
  exact body p e s m _ below meth c (name_of_methodNamed B.named B.method).1 ⟨⟨B.exec, B.bytes, hml, hown, hts⟩, hK, fun q h => Or.inr h, hSF, B.returns, B.notSynchronized⟩ s.heap [] _ (fun h => absurd h id) hP hD.self va_S.rf hl
theorem tt_startR {y : MethodName} {wm wm' : List Cond} {rm : Room} {av : List Value} {w0 : va_W} {post : Nat → va_W → Prop} (hy : plainName y.cls = true) (hw : wm = Cond.code y cc nL ret :: wm') (hsl : (lg_sl av).length ≤ nL)
    (body : ∀ (p : Program) (e : Env) (s : State) (m : MethodId) (args : Array Value) (below : List Frame) (meth : Method) (c : Code), meth.name = y.name → FX p s m args meth c cc nL ret wm y.cls D cl cI cZ cJ SL (va_A w0 s.heap.size) → TT p l e rm s m args below meth c D cl (va_A w0 s.heap.size) nL False (MQ below (QR D cl cI cZ cJ w0 post s.heap.size) args s rm.cells rm.slots (va_A w0 s.heap.size)) 0 (lv_args 0 av) [] w0 0 0) : CR l D cl cI cZ cJ SL y wm rm av w0 post := by
  intro sz
  refine Met.ofW (cc := cc) (maxL := nL) (ret := ret) hy hw ?_
  intro p e s m args below meth c s₁ B hml hv
  obtain ⟨rfl, rfl, hP, hK, hD, hSF⟩ := hv
  have hown := findClass_of_methodNamed B.named
  have hts : ∀ w ∈ wm, w.before av.toArray s = true := atoms_spec B.pre
  have hl := lv_entry av (n := nL) hsl
  rw [lg_entry_eq]
  exact body p e s m _ below meth c (name_of_methodNamed B.named B.method).1 ⟨⟨B.exec, B.bytes, hml, hown, hts⟩, hK, fun q h => Or.inr h, hSF, B.returns, B.notSynchronized⟩ s.heap [] _ (fun h => absurd h id) hP hD.self va_S.rf hl
/-- contracts that read only: the heap is as it was -/
def QO (post : Option Value → Prop) : Array Value → State → Outcome → State → Prop := fun _ st o t => (∃ v, o = .returned v ∧ post v) ∧ t.heap = st.heap
def CO (l : Launch) (D : va_G) (cl : List vw_C) (cI cZ cJ : ClassId) (SL : List zS) (y : MethodName) (wm : List Cond) (rm : Room) (av : List Value) (w0 : va_W) (post : Option Value → Prop) : Prop := ∀ sz : Nat, Met l y wm rm (PW D cl cI cZ cJ SL av w0 sz) (QO post) 0 0 (fun _ => False)

theorem tt_iretO {w0 : va_W} {post : Option Value → Prop} {z : Int} (F : FX p s m args meth c cc nL ret Ts own D cl cI cZ cJ SL (va_A w0 s.heap.size)) (hr : ret = some .int) (hd : decode cc pc = .ok (.ireturn, 1)) (hp : post (some (.int (iZ z)))) : TT p l e R s m args below meth c D cl (va_A w0 s.heap.size) nL True (MQ below (QO post) args s 0 0 (fun _ => False)) pc lv [.int (iZ z)] ws 0 0 := by
  intro H locs ls hN hP hD hS hl
  obtain ⟨rfl, rfl⟩ := hN trivial
  exact W.iret F.1.1 F.1.2.1 (F.2.2.2.2.1.trans hr) (fun t ht hw => ⟨⟨_, rfl, hp⟩, ht⟩) (fun q hq => by cases hq) hd F.2.2.2.2.2
theorem tt_zretO {w0 : va_W} {post : Option Value → Prop} {z : Int} (F : FX p s m args meth c cc nL ret Ts own D cl cI cZ cJ SL (va_A w0 s.heap.size)) (hr : ret = some .boolean) (hz : z = 0 ∨ z = 1) (hd : decode cc pc = .ok (.ireturn, 1)) (hp : post (some (.int (iZ z)))) : TT p l e R s m args below meth c D cl (va_A w0 s.heap.size) nL True (MQ below (QO post) args s 0 0 (fun _ => False)) pc lv [.int (iZ z)] ws 0 0 := by
  intro H locs ls hN hP hD hS hl
  obtain ⟨rfl, rfl⟩ := hN trivial
  exact W.zret F.1.1 F.1.2.1 (F.2.2.2.2.1.trans hr) (iZ_narrowZ hz) (fun t ht hw => ⟨⟨_, rfl, hp⟩, ht⟩) (fun q hq => by cases hq) hd F.2.2.2.2.2
theorem tt_vretO {w0 : va_W} {post : Option Value → Prop} (F : FX p s m args meth c cc nL ret Ts own D cl cI cZ cJ SL (va_A w0 s.heap.size)) (hr : ret = none) (hd : decode cc pc = .ok (.return_, 1)) (hp : post none) : TT p l e R s m args below meth c D cl (va_A w0 s.heap.size) nL True (MQ below (QO post) args s 0 0 (fun _ => False)) pc lv [] ws 0 0 := by
  intro H locs ls hN hP hD hS hl
  obtain ⟨rfl, rfl⟩ := hN trivial
  exact W.vret F.1.1 F.1.2.1 (F.2.2.2.2.1.trans hr) (fun t ht hw => ⟨⟨_, rfl, hp⟩, ht⟩) (fun q hq => by cases hq) hd F.2.2.2.2.2
theorem tt_startO {y : MethodName} {wm wm' : List Cond} {rm : Room} {av : List Value} {w0 : va_W} {post : Option Value → Prop} (hy : plainName y.cls = true) (hw : wm = Cond.code y cc nL ret :: wm') (hsl : (lg_sl av).length ≤ nL)
    (body : ∀ (p : Program) (e : Env) (s : State) (m : MethodId) (args : Array Value) (below : List Frame) (meth : Method) (c : Code), meth.name = y.name → FX p s m args meth c cc nL ret wm y.cls D cl cI cZ cJ SL (va_A w0 s.heap.size) → TT p l e rm s m args below meth c D cl (va_A w0 s.heap.size) nL True (MQ below (QO post) args s 0 0 (fun _ => False)) 0 (lv_args 0 av) [] w0 0 0) : CO l D cl cI cZ cJ SL y wm rm av w0 post := by
  intro sz
  refine Met.ofW (cc := cc) (maxL := nL) (ret := ret) hy hw ?_
  intro p e s m args below meth c s₁ B hml hv
  obtain ⟨rfl, rfl, hP, hK, hD, hSF⟩ := hv
  have hown := findClass_of_methodNamed B.named
  have hts : ∀ w ∈ wm, w.before av.toArray s = true := atoms_spec B.pre
  have hl := lv_entry av (n := nL) hsl
  rw [lg_entry_eq]
  exact body p e s m _ below meth c (name_of_methodNamed B.named B.method).1 ⟨⟨B.exec, B.bytes, hml, hown, hts⟩, hK, fun q h => Or.inr h, hSF, B.returns, B.notSynchronized⟩ s.heap [] _ (fun _ => ⟨rfl, rfl⟩) hP hD.self va_S.rf hl
theorem tt_cOV (F : FX p s m args meth c cc nL ret Ts own D cl cI cZ cJ SL A) {y : MethodName} {bytes : ByteArray} {maxL n ix : Nat} {rt : Option FieldType} {wm : List Cond} {rm : Room} {As : List Value} {w0 : va_W} {post : Option Value → Prop} {st0 : List Value} (wr : va_W) {C : String} {T : u_T} {N ci b : Nat} {fs : List Value} (q0 : Nat) (he : w0[q0]? = some (b, .inr (ci, fs))) (hcl : cl[ci]? = some (C, T, N)) (hM : CO l D cl cI cZ cJ SL y wm rm (.ref b :: As) w0 post) (cw : CallW R s args own C ix y bytes maxL rt wm rm 0 0 n) (hw : ws = wr ++ w0) (hn : As.length = n) (hst : st0 = As.reverse ++ .ref b :: st) (hW : (st.map fun v => v.category).sum ≤ 8) (hf : cells ≤ R.cells ∧ slots ≤ R.slots) (hd : decode cc pc = .ok (.invokevirtual ix, 3)) (k : ∀ v : Option Value, post v → TT p l e R s m args below meth c D cl A nL ro Q (pc + 3) lv (v.toList ++ st) ws cells slots) : TT p l e R s m args below meth c D cl A nL ro Q pc lv st0 ws cells slots := by
  intro H locs ls hN hP hD hS hl
  subst hw
  have hr : va_Run p l e R s m args below meth c H locs cells slots 0 0 (F0 m pc ls st0) st (QO post ((.ref b :: As)).toArray) (fun _ => False) := va_runV (As := As) (rest := st) F.1 (hM H.size) cw ⟨pw_blind D cl cI cZ cJ SL _ w0 H.size, tj_recv F hP he hcl, fun U hU hW => tj_pre F hP hD hS hU hW⟩ rfl hn hl.1 hst (lv_room hW) hd hf
  intro T hT X
  obtain ⟨v, st₀, t, T', L, h1, X', h2, h3, h4, ⟨⟨v', h5, h6⟩, h7⟩, G⟩ := hr T hT X
  have hL : L = [] := by
    cases L with
    | nil => rfl
    | cons q L => exact (h2 q List.mem_cons_self).elim
  subst hL
  rw [List.append_nil] at X'
  cases h5
  obtain ⟨t2, a1, b1⟩ := k v h6 H locs ls hN hP hD hS hl T' (h3.trans (h7.trans h1)) X'
  exact ⟨t2, G t2 a1, b1⟩
theorem tt_cOS (F : FX p s m args meth c cc nL ret Ts own D cl cI cZ cJ SL A) {y : MethodName} {bytes : ByteArray} {maxL n ix : Nat} {rt : Option FieldType} {wm : List Cond} {rm : Room} {As : List Value} {w0 : va_W} {post : Option Value → Prop} {st0 : List Value} (wr : va_W) (hM : CO l D cl cI cZ cJ SL y wm rm As w0 post) (cw : (CallB R s args own ix y bytes maxL rt wm rm 0 0 n ∧ (Cond.static y).before args s = true)) (hw : ws = wr ++ w0) (hn : As.length = n) (hst : st0 = As.reverse ++ st) (hW : (st.map fun v => v.category).sum ≤ 8) (hf : cells ≤ R.cells ∧ slots ≤ R.slots) (hd : decode cc pc = .ok (.invokestatic ix, 3)) (k : ∀ v : Option Value, post v → TT p l e R s m args below meth c D cl A nL ro Q (pc + 3) lv (v.toList ++ st) ws cells slots) : TT p l e R s m args below meth c D cl A nL ro Q pc lv st0 ws cells slots := by
  intro H locs ls hN hP hD hS hl
  subst hw
  have hr : va_Run p l e R s m args below meth c H locs cells slots 0 0 (F0 m pc ls st0) st (QO post (As).toArray) (fun _ => False) := va_runS (As := As) (rest := st) F.1 (hM H.size) cw ⟨pw_blind D cl cI cZ cJ SL _ w0 H.size, fun U hU hW => tj_pre F hP hD hS hU hW⟩ rfl hn hl.1 hst (lv_room hW) hd hf
  intro T hT X
  obtain ⟨v, st₀, t, T', L, h1, X', h2, h3, h4, ⟨⟨v', h5, h6⟩, h7⟩, G⟩ := hr T hT X
  have hL : L = [] := by
    cases L with
    | nil => rfl
    | cons q L => exact (h2 q List.mem_cons_self).elim
  subst hL
  rw [List.append_nil] at X'
  cases h5
  obtain ⟨t2, a1, b1⟩ := k v h6 H locs ls hN hP hD hS hl T' (h3.trans (h7.trans h1)) X'
  exact ⟨t2, G t2 a1, b1⟩
end TTR
end
section
/-! A method that throws: a new cell of a class that is told by its name, and nothing that was there has changed. (The kit has rows for methods that return alone; these stand over the library's laws Stand.ctorThrowS, Stand.leaveThrown, Steps.callFree.) -/
section TX
def tx_Q (E : String) : Array Value → State → Outcome → State → Prop := fun _ st o t =>
  ∃ (q : Addr) (ce : Cell), o = .threw q ∧ st.heap.size ≤ q ∧ t.heap[q]? = some ce ∧ ce.vm = .none ∧ st.vm.findClass E = some ce.cls ∧ st.WarmedH t.vm ∧ st.sameButNew ({ t with vm := st.vm } : State) [] 1 6
def tx_Met (l : Launch) (y : MethodName) (ws : List Cond) (rm : Room) (Pc : Array Value → State → Prop) (E : String) : Prop :=
  MetFree l y (headSpec ws rm) Pc (fun _ _ _ _ _ => True) (tx_Q E)
def tx_MQ (below : List Frame) (E : String) (a : Array Value) (s : State) : State → Prop := fun t => ∃ o, t.status = .running ∧ Ended t below o ∧ tx_Q E a s o t
theorem tx_ofW {l : Launch} {y : MethodName} {ws ws' : List Cond} {rm : Room} {Pc : Array Value → State → Prop} {E : String} {cc : ByteArray} {maxL : Nat} {ret : Option FieldType}
    (hy : plainName y.cls = true) (hw : ws = Cond.code y cc maxL ret :: ws')
    (body : ∀ p e s m args below meth c s₁, BodyLoose p l y (headSpec ws rm) cc maxL ret e s m args below meth c s₁ → c.maxLocals = maxL → Pc args s →
      W p l e (headSpec ws rm).room s m args below meth c s.heap [] 0 0 (tx_MQ below E args s) (entryFrame m args maxL)) : tx_Met l y ws rm Pc E := by
  refine MetFree.of_bodyS (code := cc) (maxLocals := maxL) (ret := ret) hy ?_ ?_
  · intro args s m h hn
    obtain ⟨meth, c, h1, h2, h3, h4, h5, h6, -, -⟩ := Cond.code_spec hn (atoms_spec (ws := ws) h _ (by rw [hw]; exact List.mem_cons_self))
    exact ⟨meth, c, h1, h2, h3, h4, h5, h6⟩
  · intro p e s m args below meth c s₁ B hml hP _
    have hh0 : s₁.heap = s.heap := by rw [B.state]; rfl
    obtain ⟨t, a1, o, b1, b2, b3⟩ := body p e s m args below meth c s₁ B hml hP s₁ hh0 (Stand.of_body B)
    exact ⟨t, o, a1, b1, b2, b3⟩
theorem tx_keep {s t : State} {k n : Nat} (h : s.sameButNew ({ t with vm := s.vm } : State) [] k n) : s.heap.size ≤ t.heap.size ∧ ∀ q : Nat, q < s.heap.size → t.heap[q]? = s.heap[q]? := by
  refine ⟨h.2.1, fun q hq => ?_⟩
  have e := Array.getElem?_eq_getElem hq
  rw [e]
  exact h.old_cell e
variable {p : Program} {l : Launch} {e : Env} {R : Room} {s : State} {m : MethodId} {args : Array Value} {below : List Frame} {meth : Method} {c : Code} {H : Heap} {locs : List Loc} {cells slots : Nat} {Q : State → Prop}
variable {cc : ByteArray} {pc : Nat} {ls : Array Slot} {rest : List Value}
/-- new; dup; ldc; invokespecial; athrow in a method that has written and made nothing -/
theorem tx_throw (hexec : p.tables.exec = Jvm.exec) (hb : c.code = cc) (hl : l.stackTraces = false) {own cls text : String} {names : List String} {ik is ic sa : Nat}
    (hown : s.vm.findClass own = some m.cls) (hcls : Bundle.fit cls = true) (hnames : ∀ n ∈ names, Bundle.fit n = true)
    (hk : (Cond.classLink own ik cls).before args s = true) (hini : (Cond.initialized cls).before args s = true) (hstr : vk_R own is text sa s) (hat : ∀ w ∈ Bundle.ownAtoms own ic cls names, w.before args s = true)
    (hsize : ls.size = c.maxLocals)
    (d0 : decode cc pc = .ok (.new ik, 3)) (d3 : decode cc (pc + 3) = .ok (.dup, 1)) (d4 : decode cc (pc + 4) = .ok (.ldc is, 2)) (d6 : decode cc (pc + 6) = .ok (.invokespecial ic, 3)) (d9 : decode cc (pc + 9) = .ok (.athrow, 1))
    (hout : ∀ x ∈ c.exceptionTable.toList, covers x (pc + 9) = false)
    (hRframes : names.length + 3 < R.frames) (hRlocals : (rest.map fun v => v.category).sum + (13 * (names.length + 1) + 43) ≤ R.locals) (hRcells : 1 ≤ R.cells) (hRslots : 6 ≤ R.slots) (hlocks : meth.locks = false) :
    W p l e R s m args below meth c s.heap [] 0 0 (tx_MQ below cls args s) (F0 m pc ls rest) := by
  intro T hT X
  have htr : e.platform.stackTraces = false := (show e.platform.stackTraces = l.stackTraces by rw [X.admits.platform]).trans hl
  have hins : (Cond.instantiable cls 6).before args s = true := hat _ (by simp [Bundle.ownAtoms])
  obtain ⟨vm₁, cX, kX, hfX, hkX, -, -, X₁, st1⟩ := X.newCold hexec (own := own) (C := cls) (index := ik) (n := 6) hown hk hins hini
    (g := F0 m pc ls rest) rfl (by rw [hb]; exact d0) (by omega) (by omega)
  generalize hT1 : (T.setVm vm₁).pushCell { cls := cX, slots := kX.instanceTypes.map defaultValue, vm := .none } = T1 at X₁ st1
  have hcat : (Value.ref T.heap.size).category = 1 := rfl
  have hcellA : T1.heap[T.heap.size]? = some (freshCell cX kX) := by rw [← hT1]; exact State.heap_pushCell_size _ _
  have d3' : decode c.code (pc + 3) = .ok (.dup, 1) := by rw [hb]; exact d3
  have d4' : decode c.code (pc + 4) = .ok (.ldc is, 2) := by rw [hb]; exact d4
  obtain ⟨U, hsteps, hrun, hend, hW, hsame, ce, hce, hO⟩ := X₁.ctorThrowS hexec htr (own := own) (cls := cls) (names := names) (ic := ic) hown hcls hnames hat (fun x hx => nomatch hx) hfX hkX hcellA (by rw [hT]; exact Nat.le_refl _) (msg := .ref sa) rfl
    (g := { method := m, pc := pc + 6, locals := ls, stack := .ref sa :: .ref T.heap.size :: .ref T.heap.size :: rest, locked := none }) rfl hsize rfl rfl (rest := rest) rfl
    (by rw [hb]; exact d6) (by rw [hb]; exact d9) hout hRframes (by show 2 * 0 + _ + _ ≤ _; simp only [List.map_cons, List.sum_cons, hcat]; omega) hlocks
  refine ⟨U, ?_, .threw T.heap.size, hrun, hend, T.heap.size, ce, rfl, by rw [hT]; exact Nat.le_refl _, hce, hO.vm, hO.cls, hW, hsame.mono (by omega) (by omega)⟩
  refine st1 _ ?_
  show Steps p.tables e below (T1.setTop { method := m, pc := pc + 3, locals := ls, stack := .ref T.heap.size :: rest, locked := none }) _
  jvm_step X₁.here [X₁.here.top, hexec, d3', Value.category]
  exact X₁.ldcString hexec (own := own) (text := text) (index := is) (a := sa) hown hstr.1 hstr.2
    (g := { method := m, pc := pc + 4, locals := ls, stack := .ref T.heap.size :: .ref T.heap.size :: rest, locked := none }) rfl d4' _ hsteps
/-- the call of a method that throws, from its invocation to the note over the caller's frame -/
theorem tx_come {y : MethodName} {ws : List Cond} {rm : Room} {Pc : Array Value → State → Prop} {E : String} {bytes : ByteArray} {maxL : Nat} {ret : Option FieldType} {g : JFrame} {ig : Instr} {len W9 : Nat} {mk : MethodId} {a : Array Value} {U : State}
    (hM : tx_Met l y ws rm Pc E) (hblind : FrameBlind Pc) (hrc : rm.cells = 1) (hrs : rm.slots = 6) (hframes : rm.frames + 1 ≤ R.frames) (hlocals : W9 + (maxL + 11) + rm.locals ≤ R.locals)
    (hws : ∀ w ∈ ws, w.before a U = true) (hcode : Cond.code y bytes maxL ret ∈ ws) (hinit : (Cond.initialized y.cls).before a U = true)
    (X : Stand p l e R s m args below meth c U locs cells slots) (hg : g.method = m) (hsize : g.locals.size = c.maxLocals) (hdg : decode c.code g.pc = .ok (ig, len)) (hW : 2 * g.monitorRoom + (g.stack.map fun v => v.category).sum ≤ W9)
    (hn : U.methodNamed? y = some mk) (hc : cells + 1 ≤ R.cells) (hs : slots + 6 ≤ R.slots) (hp : Pc a U) :
    ∃ (q : Addr) (ce : Cell) (B : State), Stand p l e R s m args below meth c B locs (cells + 1) (slots + 6) ∧ U.heap.size ≤ q ∧ B.heap[q]? = some ce ∧ ce.vm = .none ∧ U.vm.findClass E = some ce.cls ∧ U.heap.size ≤ B.heap.size ∧ (∀ k : Nat, k < U.heap.size → B.heap[k]? = U.heap[k]?) ∧ U.WarmedH B.vm ∧
      Steps p.tables e below (doInvoke e (U.setTop g) [] mk a).1 ((B.setTop g).pushFrame (.throwing q)) := by
  have h2 : (Cond.code y bytes maxL ret).before a U = true := hws _ hcode
  obtain ⟨methY, cY, hmY, hcY, -, hlY, -, -, -, -⟩ := Cond.code_spec hn h2
  obtain ⟨kY, hkY, -⟩ := className_of_methodNamed hn
  have hinitY : kY.init = .initialized := Cond.initialized_spec (findClass_of_methodNamed hn) hkY hinit
  have h : At U g.method c below := by rw [hg]; exact X.here
  have happ : (headSpec ws rm).appliesLoose y e.platform (U.calling g mk a) = true :=
    Spec.appliesLoose_calling (g := g) h hdg hn hkY hinitY
      (X.room_calling (g := g) (R' := (headSpec ws rm).room) hsize hmY hcY hframes (by rw [hlY]; show _ + _ + rm.locals ≤ _; omega) (by show cells + rm.cells ≤ _; rw [hrc]; exact hc) (by show slots + rm.slots ≤ _; rw [hrs]; exact hs)) (atoms_intro hws)
  obtain ⟨mid, hmid⟩ := h.above
  have hfr : (U.setTop g).frames = (.java g :: mid) ++ below := by rw [State.frames_setTop' g h.top, hmid]; rfl
  obtain ⟨o, s₂, hsteps, -, hend, hq⟩ := Steps.callFree hM p X.admits X.cas X.clock (acts := []) hfr happ (hblind _ _ _ _ hp) trivial
  have hq' : tx_Q E a (U.calling g mk a) o s₂ := hq
  rw [State.frames_setTop' g h.top] at hend
  obtain ⟨v, ce, rfl, hqs, hce, hcv, hcl, hW₂, hsm⟩ := hq'
  obtain ⟨k1, k2⟩ := tx_keep hsm
  obtain ⟨e2, q2, q3, q4, q5, q6⟩ := id hsm
  have e3 : s₂ = ({ (U.calling g mk a).setFrames s₂.frames with heap := s₂.heap, slotsUsed := s₂.slotsUsed } : State).setVm s₂.vm := by
    have : s₂ = ({ s₂ with vm := (U.calling g mk a).vm } : State).setVm s₂.vm := rfl
    rw [e2] at this
    exact this
  have hf₂ : s₂.frames = .throwing v :: .java g :: U.frames.tail := hend
  have hW' : U.WarmedH s₂.vm := hW₂
  obtain ⟨g₀, hg0⟩ := Option.isSome_iff_exists.mp h.top
  obtain ⟨r, hr⟩ := State.topJava?_eq_some.mp hg0
  have hs₂ : s₂ = ((({ U with heap := s₂.heap, slotsUsed := s₂.slotsUsed } : State).setVm s₂.vm).setTop g).pushFrame (.throwing v) := by
    have hr' : (({ U with heap := s₂.heap, slotsUsed := s₂.slotsUsed } : State).setVm s₂.vm).frames = .java g₀ :: r := hr
    refine e3.trans ?_
    rw [hf₂, State.calling_eq h.top, State.setFrames_setFrames, State.pushFrame, State.frames_setTop _ hr', State.setTop_of_frames _ hr', State.setFrames_setFrames, hr]
    rfl
  have hsame : U.sameButNew ({ U with heap := s₂.heap, slotsUsed := s₂.slotsUsed } : State) [] 1 6 := by
    refine ⟨?_, q2, q3, q4, q5, q6⟩
    obtain ⟨t, ht, -⟩ := State.frames_cons hr
    show ({ U with heap := s₂.heap, slotsUsed := s₂.slotsUsed } : State) = { U.setFrames U.frames with heap := s₂.heap, slotsUsed := s₂.slotsUsed }
    rw [State.setFrames_self ht]
  have hall := X.same.trans (hsame.setVm s.vm)
  rw [List.append_nil] at hall
  subst hg
  refine ⟨v, ce, ({ U with heap := s₂.heap, slotsUsed := s₂.slotsUsed } : State).setVm s₂.vm,
    ⟨X.admits, X.cas, X.clock, X.frames, X.room, X.hears, X.method, X.code, (X.here.setHeapUsed s₂.heap s₂.slotsUsed).setVm hW'.alike, X.tail, State.WarmedH.trans X.warmed hW', X.limits, X.bytes, hall⟩, hqs, hce, hcv, hcl, k1, k2, hW', ?_⟩
  rw [← hs₂]
  exact hsteps
/-- where a call of a method that throws stands: the note over the caller's frame -/
def tx_Run (p : Program) (l : Launch) (e : Env) (R : Room) (s : State) (m : MethodId) (args : Array Value) (below : List Frame) (meth : Method) (c : Code) (H : Heap) (locs : List Loc) (cells slots : Nat) (g : JFrame) (rest : List Value) (E : String) : Prop :=
  ∀ T : State, T.heap = H → Stand p l e R s m args below meth c T locs cells slots → ∃ (q : Addr) (ce : Cell) (B : State), Stand p l e R s m args below meth c B locs (cells + 1) (slots + 6) ∧ H.size ≤ q ∧ B.heap[q]? = some ce ∧ ce.vm = .none ∧ s.vm.findClass E = some ce.cls ∧ H.size ≤ B.heap.size ∧ (∀ k : Nat, k < H.size → B.heap[k]? = H[k]?) ∧
    Steps p.tables e below (T.setTop g) ((B.setTop { g with stack := rest }).pushFrame (.throwing q))
variable {y : MethodName} {bytes : ByteArray} {maxL nL mc ms n index : Nat} {ret : Option FieldType} {ws : List Cond} {rm : Room} {Pc : Array Value → State → Prop} {E : String} {Ts : List Cond} {own C : String} {b : Addr} {As : List Value} {g : JFrame}
theorem tx_runV (S : CallFix p m c cc nL s args Ts own) (hM : tx_Met l y ws rm Pc E) (cw : CallW R s args own C index y bytes maxL ret ws rm 1 6 n) (hp : PreV s H C b Pc As)
    (hg : g.method = m) (hn : As.length = n) (hsize : g.locals.size = nL) (hstack : g.stack = As.reverse ++ .ref b :: rest) (hW : 2 * g.monitorRoom + (rest.map fun v => v.category).sum ≤ 8) (hdg : decode cc g.pc = .ok (.invokevirtual index, 3)) (hf : cells + 1 ≤ R.cells ∧ slots + 6 ≤ R.slots) :
    tx_Run p l e R s m args below meth c H locs cells slots g rest E := by
  obtain ⟨⟨hrc, hrs, hfr, hlo, hws, hcw, hcode, hini, hy, hlen, hl⟩, hin, hse⟩ := cw
  obtain ⟨hx, hb, hml, ho, -⟩ := S
  obtain ⟨hbl, ⟨cellB, hcB, hoB, hclB⟩, hPc⟩ := hp
  intro T hT X
  obtain ⟨mk, methM, hnamed, hmethM, hstM, habM⟩ := Cond.instanceMethod_spec hin
  obtain ⟨methM', cM, hmethM', -, -, -, -, -, -, hsigM⟩ := Cond.code_spec hnamed hcode
  cases hmethM.symm.trans hmethM'
  obtain ⟨c2, r2, m2, q1, q2, q3, q4, kP, hkP, hkPi⟩ := Cond.selects_spec hse
  cases hclB.symm.trans q1
  cases (State.methodFound?_of_named hnamed hy).symm.trans q2
  cases hnamed.symm.trans q3
  have hselP : selectMethod e.platform s.vm cellB.cls mk = .method mk := by rw [Launch.admits_selectMethod X.admits]; exact q4
  have hdg' : decode c.code g.pc = .ok (.invokevirtual index, 3) := by rw [hb]; exact hdg
  obtain ⟨vm₁, X₁, hstep₁⟩ := X.invokevirtual hx ho hl hnamed hmethM hstM hkP hkPi hy (a := b) (cell := cellB) (by rw [hT]; exact hcB)
    (fun z h => by rw [h] at hoB; cases hoB) hselP hmethM habM hkP hkPi (g := g) hg (argsL := As) (rest := rest) (hn.trans (hlen _ hsigM)) hstack hdg'
  obtain ⟨q, ce, B, XB, h1, h2, h3, h4, h5, h6, -, hsteps⟩ := tx_come (bytes := bytes) (maxL := maxL) (ret := ret) (W9 := 8) (g := { g with stack := rest }) (a := (Value.ref b :: As).toArray) hM hbl hrc hrs hfr hlo (fun w hw => hws w hw _ _ X₁.warmed) hcw
    (word_at X₁.warmed (Or.inl (by first | rfl | simp [Cond.onTables, Cond.keeps, Cond.steady])) hini) X₁ hg (hsize.trans hml.symm) hdg' hW (X₁.named hnamed) hf.1 hf.2 (hPc (T.setVm vm₁) hT X₁.warmed)
  have hTH : (T.setVm vm₁).heap = H := hT
  rw [hTH] at h1 h5 h6
  refine ⟨q, ce, B, XB, h1, h2, h3, ?_, h5, h6, hstep₁ _ fun acts => by rw [doInvoke_state]; exact hsteps⟩
  rw [X₁.warmed.alike.findClass] at h4
  exact h4
theorem tx_runS (S : CallFix p m c cc nL s args Ts own) (hM : tx_Met l y ws rm Pc E) (cw : CallB R s args own index y bytes maxL ret ws rm 1 6 n ∧ (Cond.static y).before args s = true) (hp : PreS s H Pc As)
    (hg : g.method = m) (hn : As.length = n) (hsize : g.locals.size = nL) (hstack : g.stack = As.reverse ++ rest) (hW : 2 * g.monitorRoom + (rest.map fun v => v.category).sum ≤ 8) (hdg : decode cc g.pc = .ok (.invokestatic index, 3)) (hf : cells + 1 ≤ R.cells ∧ slots + 6 ≤ R.slots) :
    tx_Run p l e R s m args below meth c H locs cells slots g rest E := by
  obtain ⟨⟨hrc, hrs, hfr, hlo, hws, hcw, hcode, hini, hy, hlen, hl⟩, hstt⟩ := cw
  obtain ⟨hx, hb, hml, ho, -⟩ := S
  obtain ⟨hbl, hPc⟩ := hp
  intro T hT X
  obtain ⟨mk, hnamed⟩ := Cond.code_named hcode
  obtain ⟨methM, cM, hmethM, -, -, -, -, -, -, hsigM⟩ := Cond.code_spec hnamed hcode
  have hstatic : methM.isStatic = true := Cond.static_spec hnamed hmethM hstt
  obtain ⟨kP, hkP, -⟩ := className_of_methodNamed hnamed
  have hinitP : kP.init = .initialized := Cond.initialized_spec (findClass_of_methodNamed hnamed) hkP hini
  have hdg' : decode c.code g.pc = .ok (.invokestatic index, 3) := by rw [hb]; exact hdg
  obtain ⟨vm₁, X₁, hstep₁⟩ := X.invokestatic hx ho hl hnamed hmethM hstatic hkP hinitP hy (g := g) hg (argsL := As) (rest := rest) (hn.trans (hlen _ hsigM)) hstack hdg'
  obtain ⟨q, ce, B, XB, h1, h2, h3, h4, h5, h6, -, hsteps⟩ := tx_come (bytes := bytes) (maxL := maxL) (ret := ret) (W9 := 8) (g := { g with stack := rest }) (a := As.toArray) hM hbl hrc hrs hfr hlo (fun w hw => hws w hw _ _ X₁.warmed) hcw
    (word_at X₁.warmed (Or.inl (by first | rfl | simp [Cond.onTables, Cond.keeps, Cond.steady])) hini) X₁ hg (hsize.trans hml.symm) hdg' hW (X₁.named hnamed) hf.1 hf.2 (hPc (T.setVm vm₁) hT X₁.warmed)
  have hTH : (T.setVm vm₁).heap = H := hT
  rw [hTH] at h1 h5 h6
  refine ⟨q, ce, B, XB, h1, h2, h3, ?_, h5, h6, hstep₁ _ fun acts => by rw [doInvoke_state]; exact hsteps⟩
  rw [X₁.warmed.alike.findClass] at h4
  exact h4
/-- not caught in this method, which has written and made nothing: it throws on -/
theorem tx_out {st0 : List Value} (hr : tx_Run p l e R s m args below meth c s.heap [] 0 0 (F0 m pc ls st0) rest E) (hout : ∀ x ∈ c.exceptionTable.toList, covers x pc = false) (hlocks : meth.locks = false) :
    W p l e R s m args below meth c s.heap [] 0 0 (tx_MQ below E args s) (F0 m pc ls st0) := by
  intro T hT X
  obtain ⟨q, ce, B, XB, h1, h2, h3, h4, h5, h6, st⟩ := hr T hT X
  obtain ⟨st1, hrun, hend, hW, hsm⟩ := XB.leaveThrown q (g := F0 m pc ls rest) rfl rfl rfl hout hlocks
  exact ⟨_, st.trans st1, .threw q, hrun, hend, q, ce, rfl, h1, h2, h3, h4, hW, hsm⟩
end TX
end
section
/-! The catching of what a callee threw, by the first or the second row of the method's own table; the row's class may be linked here for the first time. -/
section TC
/-- what the search for a handler gives, and the tables that it leaves -/
def tc_F (e : Env) (s : State) (f : JFrame) (a : Addr) (h : Handler) (vm' : Vm) : Prop :=
  ∀ (Q : Handler → Pre) (E : CtlPost) (d : Bool) (acts : List Action), wp (findHandler f a) Q E e d acts s ↔ Q h d acts (s.setVm vm')
theorem tc_hit {Q : Handler → Pre} {E : CtlPost} {e : Env} {d : Bool} {acts : List Action} {s : State} {f : JFrame} {a : Addr} {x : ExceptionTableEntry} {t : List ExceptionTableEntry} {k : ClassId} {cell : Cell} (hx : covers x f.pc = true) (h0 : x.catchType ≠ 0)
    (hl : s.vm.ClassLinks e.platform f.method.cls x.catchType k) (hcell : s.heap[a]? = some cell) (hobj : ∀ k, cell.vm ≠ .statics k)
    (hk : ∃ k, s.vm.classes[cell.cls]? = some k) (hc : ∃ kk, s.vm.classes[k]? = some kk) (hfit : s.vm.assignable cell.cls k = true) :
    wp (findHandler.go f a (x :: t)) Q E e d acts s ↔ Q (.found x.handlerPc) d acts (s.setVm (s.vm.noted f.method.cls x.catchType (.cls k))) := by
  simp only [covers] at hx
  obtain ⟨ha, ht⟩ := (resolveClass_links e.toSetting hl).op (op := VmOp.resolveClass f.method.cls x.catchType) rfl
  have hal : s.vm.Alike (s.vm.noted f.method.cls x.catchType (.cls k)) := (Vm.Alike.refl s.vm).noted _ _ _
  obtain ⟨k1, hk1⟩ := hk
  obtain ⟨k2, hk2⟩ := hc
  obtain ⟨k1', hk1', -⟩ := hal.2.2 _ _ hk1
  obtain ⟨k2', hk2', -⟩ := hal.2.2 _ _ hk2
  have hfit' : (s.vm.noted f.method.cls x.catchType (.cls k)).assignable cell.cls k = true := by rw [hal.assignable]; exact hfit
  simp [findHandler.go, hx, h0, ha, ht, hcell, hobj, hk1', hk2', hfit', VmOp.dirties, VmOp.acts]
theorem tc_miss {Q : Handler → Pre} {E : CtlPost} {e : Env} {d : Bool} {acts : List Action} {s : State} {f : JFrame} {a : Addr} {x : ExceptionTableEntry} {t : List ExceptionTableEntry} {k : ClassId} {cell : Cell} (hx : covers x f.pc = true) (h0 : x.catchType ≠ 0)
    (hl : s.vm.ClassLinks e.platform f.method.cls x.catchType k) (hcell : s.heap[a]? = some cell) (hobj : ∀ k, cell.vm ≠ .statics k)
    (hk : ∃ k, s.vm.classes[cell.cls]? = some k) (hc : ∃ kk, s.vm.classes[k]? = some kk) (hno : s.vm.assignable cell.cls k = false) :
    wp (findHandler.go f a (x :: t)) Q E e d acts s ↔ wp (findHandler.go f a t) Q E e d acts (s.setVm (s.vm.noted f.method.cls x.catchType (.cls k))) := by
  simp only [covers] at hx
  obtain ⟨ha, ht⟩ := (resolveClass_links e.toSetting hl).op (op := VmOp.resolveClass f.method.cls x.catchType) rfl
  have hal : s.vm.Alike (s.vm.noted f.method.cls x.catchType (.cls k)) := (Vm.Alike.refl s.vm).noted _ _ _
  obtain ⟨k1, hk1⟩ := hk
  obtain ⟨k2, hk2⟩ := hc
  obtain ⟨k1', hk1', -⟩ := hal.2.2 _ _ hk1
  obtain ⟨k2', hk2', -⟩ := hal.2.2 _ _ hk2
  have hno' : (s.vm.noted f.method.cls x.catchType (.cls k)).assignable cell.cls k = false := by rw [hal.assignable]; exact hno
  simp [findHandler.go, hx, h0, ha, ht, hcell, hobj, hk1', hk2', hno', VmOp.dirties, VmOp.acts]
theorem tc_step {e : Env} {s : State} {a : Addr} {f : JFrame} {r : List Frame} {pc : Nat} {vm' : Vm} (hfind : tc_F e s f a (.found pc) vm') :
    (stepThrowing e s a (.java f :: r)).Is ((s.setVm vm').setFrames (.java { f with pc := pc, stack := [.ref a] } :: r)) [] := by
  simp only [stepThrowing, searchFrame, vmDo]
  generalize hr : Sem.go _ e false [] s = res
  obtain ⟨as, rfl, ha⟩ := Sem.eq_ok_of hr (a := Handler.found pc) (s' := s.setVm vm') (acts' := []) (by simp [hfind _ _ _ _])
  exact ⟨rfl, ha⟩
theorem tc_frames (u : State) (vm' : Vm) (F G : List Frame) : ((u.setFrames F).setVm vm').setFrames G = (u.setVm vm').setFrames G := by
  have h1 : (u.setFrames F).setVm vm' = (u.setVm vm').setFrames F := rfl
  rw [h1, State.setFrames_setFrames]
theorem tc_steps {tb : Tables} {e : Env} {s target : State} {g : JFrame} {c : Code} {below : List Frame} {a : Addr} (h : At s g.method c below) {pc : Nat} {vm' : Vm}
    (hfind : tc_F e ((s.setTop g).pushFrame (.throwing a)) g a (.found pc) vm') (hrest : Steps tb e below ((s.setVm vm').setTop { g with pc := pc, stack := [.ref a] }) target) :
    Steps tb e below ((s.setTop g).pushFrame (.throwing a)) target := by
  obtain ⟨hgo, hw⟩ := h.throwing a
  refine Steps.head hgo hw ?_
  rw [stepThread_throwing (frames_entered h.top _), (tc_step (s := (s.setTop g).pushFrame (.throwing a)) hfind).1]
  obtain ⟨g₀, hg⟩ := Option.isSome_iff_exists.mp h.top
  obtain ⟨r, hr⟩ := State.topJava?_eq_some.mp hg
  have hr' : (s.setVm vm').frames = .java g₀ :: r := hr
  rw [State.setTop_of_frames _ hr'] at hrest
  rw [hr, List.tail_cons, State.pushFrame, tc_frames, State.setTop_of_frames _ hr, tc_frames]
  exact hrest
variable {p : Program} {l : Launch} {e : Env} {R : Room} {s : State} {m : MethodId} {args : Array Value} {below : List Frame} {meth : Method} {c : Code} {H : Heap} {locs : List Loc} {cells slots : Nat} {Q : State → Prop}
variable {pc : Nat} {ls : Array Slot} {rest st0 : List Value} {E own name name1 : String}
theorem tc_catch (hr : tx_Run p l e R s m args below meth c H locs cells slots (F0 m pc ls st0) rest E) (hown : s.vm.findClass own = some m.cls) (x : ExceptionTableEntry) (suf : List ExceptionTableEntry) (htab : c.exceptionTable.toList = x :: suf)
    (hx : covers x pc = true) (h0 : x.catchType ≠ 0) (hlink : (Cond.classLink own x.catchType name).before args s = true) (hcast : (Cond.castable E name).before args s = true)
    (k : ∀ (q : Nat) (H1 : Heap), H.size ≤ q → H.size ≤ H1.size → (∀ j : Nat, j < H.size → H1[j]? = H[j]?) → W p l e R s m args below meth c H1 locs (cells + 1) (slots + 6) Q (F0 m x.handlerPc ls [.ref q])) :
    W p l e R s m args below meth c H locs cells slots Q (F0 m pc ls st0) := by
  intro T hT X
  obtain ⟨q, ce, B, XB, h1, h2, h3, h4, h5, h6, st⟩ := hr T hT X
  have hpl : e.platform.magicAccessors = ({} : Platform).magicAccessors := by rw [XB.admits.platform]
  obtain ⟨c3, c4, hc3, hc4, hasg⟩ := Cond.castable_spec hcast
  cases Option.some.inj (hc3.symm.trans h4)
  obtain ⟨c5, hc5, hcl⟩ := Cond.classLink_spec hown hlink e.platform hpl
  cases Option.some.inj (hc4.symm.trans hc5)
  obtain ⟨dk, _, _, kt, hd, _, _, _, _, hkt, _, hopen⟩ := hcl.here
  have hcl₀ := XB.warmed.classLinks hcl
  have hW' : s.WarmedH (B.vm.noted m.cls x.catchType (.cls c4)) := XB.warmed.noted hd hopen (State.rightAt_cls hcl)
  have hal := XB.warmed.alike
  obtain ⟨kt', hkt', -⟩ := hal.2.2 _ _ hkt
  have hfit' : B.vm.assignable ce.cls c4 = true := by rw [hal.assignable]; exact hasg
  have hfind : tc_F e ((B.setTop (F0 m pc ls rest)).pushFrame (.throwing q)) (F0 m pc ls rest) q (.found x.handlerPc) (B.vm.noted m.cls x.catchType (.cls c4)) := by
    intro Q9 E9 d9 acts9
    rw [W.findHandler_eq (meth := meth) (code := c) (by rw [Stand.throwing_vm]; exact XB.method') XB.code, htab]
    have hvm : ((B.setTop (F0 m pc ls rest)).pushFrame (.throwing q)).vm = B.vm := Stand.throwing_vm _ _ _
    have hhp : ((B.setTop (F0 m pc ls rest)).pushFrame (.throwing q)).heap = B.heap := Stand.throwing_heap _ _ _
    have key := tc_hit (Q := Q9) (E := E9) (e := e) (d := d9) (acts := acts9) (s := (B.setTop (F0 m pc ls rest)).pushFrame (.throwing q)) (f := F0 m pc ls rest) (a := q) (t := suf) (k := c4) (cell := ce) hx h0 (by rw [hvm]; exact hcl₀) (by rw [hhp]; exact h2) (by rw [h3]; exact fun k h => by cases h)
      (by rw [hvm]; exact Vm.classAt_of_assignable hfit' ⟨kt', hkt'⟩) (by rw [hvm]; exact ⟨kt', hkt'⟩) (by rw [hvm]; exact hfit')
    rw [key, hvm]
  obtain ⟨t, a1, b1⟩ := k q B.heap h1 h5 h6 (B.setVm (B.vm.noted m.cls x.catchType (.cls c4))) rfl (XB.noted hW')
  exact ⟨t, st.trans (tc_steps XB.here hfind a1), b1⟩
theorem tc_catch2 (hr : tx_Run p l e R s m args below meth c H locs cells slots (F0 m pc ls st0) rest E) (hown : s.vm.findClass own = some m.cls) (x1 x : ExceptionTableEntry) (suf : List ExceptionTableEntry) (htab : c.exceptionTable.toList = x1 :: x :: suf)
    (hx1 : covers x1 pc = true) (h01 : x1.catchType ≠ 0) (hlink1 : (Cond.classLink own x1.catchType name1).before args s = true) (hno : va_Nc E name1 s)
    (hx : covers x pc = true) (h0 : x.catchType ≠ 0) (hlink : (Cond.classLink own x.catchType name).before args s = true) (hcast : (Cond.castable E name).before args s = true)
    (k : ∀ (q : Nat) (H1 : Heap), H.size ≤ q → H.size ≤ H1.size → (∀ j : Nat, j < H.size → H1[j]? = H[j]?) → W p l e R s m args below meth c H1 locs (cells + 1) (slots + 6) Q (F0 m x.handlerPc ls [.ref q])) :
    W p l e R s m args below meth c H locs cells slots Q (F0 m pc ls st0) := by
  intro T hT X
  obtain ⟨q, ce, B, XB, h1, h2, h3, h4, h5, h6, st⟩ := hr T hT X
  have hpl : e.platform.magicAccessors = ({} : Platform).magicAccessors := by rw [XB.admits.platform]
  obtain ⟨c3, c4, hc3, hc4, hasg⟩ := Cond.castable_spec hcast
  cases Option.some.inj (hc3.symm.trans h4)
  obtain ⟨c5, hc5, hcl⟩ := Cond.classLink_spec hown hlink e.platform hpl
  cases Option.some.inj (hc4.symm.trans hc5)
  obtain ⟨c6, hc6, hcl1⟩ := Cond.classLink_spec hown hlink1 e.platform hpl
  obtain ⟨a8, b8, g1, g2, g3⟩ := hno
  cases Option.some.inj (g1.symm.trans h4)
  cases Option.some.inj (g2.symm.trans hc6)
  obtain ⟨dk, _, _, kt, hd, _, _, _, _, hkt, _, hopen⟩ := hcl.here
  obtain ⟨dk1, _, _, kt1, hd1, _, _, _, _, hkt1, _, hopen1⟩ := hcl1.here
  have hW1 : s.WarmedH (B.vm.noted m.cls x1.catchType (.cls c6)) := XB.warmed.noted hd1 hopen1 (State.rightAt_cls hcl1)
  have hW' : s.WarmedH ((B.vm.noted m.cls x1.catchType (.cls c6)).noted m.cls x.catchType (.cls c4)) := hW1.noted hd hopen (State.rightAt_cls hcl)
  have hcl₁ := XB.warmed.classLinks hcl1
  have hcl₀ := hW1.classLinks hcl
  have hal := XB.warmed.alike
  have hal1 := hW1.alike
  obtain ⟨kt1', hkt1', -⟩ := hal.2.2 _ _ hkt1
  obtain ⟨kt', hkt', -⟩ := hal1.2.2 _ _ hkt
  have hno' : B.vm.assignable ce.cls c6 = false := by rw [hal.assignable]; exact g3
  have hfit' : (B.vm.noted m.cls x1.catchType (.cls c6)).assignable ce.cls c4 = true := by rw [hal1.assignable]; exact hasg
  obtain ⟨ke, hke⟩ : ∃ ke, s.vm.classes[ce.cls]? = some ke := by obtain ⟨k9, h9, -⟩ := Vm.findClass_spec h4; exact ⟨k9, h9⟩
  obtain ⟨ke', hke', -⟩ := hal.2.2 _ _ hke
  have hfind : tc_F e ((B.setTop (F0 m pc ls rest)).pushFrame (.throwing q)) (F0 m pc ls rest) q (.found x.handlerPc) ((B.vm.noted m.cls x1.catchType (.cls c6)).noted m.cls x.catchType (.cls c4)) := by
    intro Q9 E9 d9 acts9
    rw [W.findHandler_eq (meth := meth) (code := c) (by rw [Stand.throwing_vm]; exact XB.method') XB.code, htab]
    have hvm : ((B.setTop (F0 m pc ls rest)).pushFrame (.throwing q)).vm = B.vm := Stand.throwing_vm _ _ _
    have hhp : ((B.setTop (F0 m pc ls rest)).pushFrame (.throwing q)).heap = B.heap := Stand.throwing_heap _ _ _
    have key1 := tc_miss (Q := Q9) (E := E9) (e := e) (d := d9) (acts := acts9) (s := (B.setTop (F0 m pc ls rest)).pushFrame (.throwing q)) (f := F0 m pc ls rest) (a := q) (t := x :: suf) (k := c6) (cell := ce) hx1 h01 (by rw [hvm]; exact hcl₁) (by rw [hhp]; exact h2) (by rw [h3]; exact fun k h => by cases h)
      (by rw [hvm]; exact ⟨ke', hke'⟩) (by rw [hvm]; exact ⟨kt1', hkt1'⟩) (by rw [hvm]; exact hno')
    rw [key1, hvm]
    have key := tc_hit (Q := Q9) (E := E9) (e := e) (d := d9) (acts := acts9) (s := ((B.setTop (F0 m pc ls rest)).pushFrame (.throwing q)).setVm (B.vm.noted m.cls x1.catchType (.cls c6))) (f := F0 m pc ls rest) (a := q) (t := suf) (k := c4) (cell := ce) hx h0 hcl₀ (by show ((B.setTop (F0 m pc ls rest)).pushFrame (.throwing q)).heap[q]? = _; rw [hhp]; exact h2) (by rw [h3]; exact fun k h => by cases h)
      (Vm.classAt_of_assignable hfit' ⟨kt', hkt'⟩) ⟨kt', hkt'⟩ hfit'
    rw [key]
    rfl
  obtain ⟨t, a1, b1⟩ := k q B.heap h1 h5 h6 (B.setVm ((B.vm.noted m.cls x1.catchType (.cls c6)).noted m.cls x.catchType (.cls c4))) rfl (XB.noted hW')
  exact ⟨t, st.trans (tc_steps XB.here hfind a1), b1⟩
end TC
end
section
/-! Counting and listing by integers; indices of a grid; roots and lifts. -/
def bi (b : Bool) : Int := if b = true then 1 else 0
theorem bi_b (b : Bool) : 0 ≤ bi b ∧ bi b ≤ 1 := by cases b <;> decide
theorem bi_t {b : Bool} (h : b = true) : bi b = 1 := by rw [h]; rfl
theorem bi_f {b : Bool} (h : b = false) : bi b = 0 := by rw [h]; rfl
def cnt (P : Int → Bool) : Nat → Int
  | 0 => 0
  | k + 1 => cnt P k + bi (P (k : Int))
/-- how many of 0 .. z - 1 are such -/
def cz (P : Int → Bool) (z : Int) : Int := cnt P z.toNat
theorem cz_0 (P : Int → Bool) {z : Int} (h : z ≤ 0) : cz P z = 0 := by
  have e : z.toNat = 0 := by omega
  simp [cz, e, cnt]
theorem cz_s (P : Int → Bool) {z : Int} (h : 0 ≤ z) : cz P (z + 1) = cz P z + bi (P z) := by
  obtain ⟨k, rfl⟩ := Int.eq_ofNat_of_zero_le h
  have e1 : ((k : Int) + 1).toNat = k + 1 := by omega
  have e2 : ((k : Int)).toNat = k := by omega
  simp only [cz, e1, e2, cnt]
/-- by steps from 0 -/
theorem zi_up {M : Int → Prop} (h0 : M 0) (hs : ∀ z, 0 ≤ z → M z → M (z + 1)) : ∀ z, 0 ≤ z → M z := by
  intro z hz
  obtain ⟨k, rfl⟩ := Int.eq_ofNat_of_zero_le hz
  induction k with
  | zero => exact h0
  | succ k ih =>
    have e : (((k + 1 : Nat)) : Int) = (k : Int) + 1 := by omega
    rw [e]
    exact hs k (by omega) (ih (by omega))
theorem cz_b (P : Int → Bool) {z : Int} (h : 0 ≤ z) : 0 ≤ cz P z ∧ cz P z ≤ z := by
  refine zi_up (M := fun z => 0 ≤ cz P z ∧ cz P z ≤ z) ?_ ?_ z h
  · show 0 ≤ cz P 0 ∧ cz P 0 ≤ 0
    rw [cz_0 P (Int.le_refl 0)]; omega
  · intro z hz ih
    show 0 ≤ cz P (z + 1) ∧ cz P (z + 1) ≤ z + 1
    rw [cz_s P hz]
    have := bi_b (P z)
    omega
theorem cz_skip {P : Int → Bool} {a b : Int} (h0 : 0 ≤ a) (hab : a ≤ b) (h : ∀ p, a ≤ p → p < b → P p = false) : cz P b = cz P a := by
  have key : ∀ d, 0 ≤ d → a + d ≤ b → cz P (a + d) = cz P a := by
    refine zi_up (M := fun d => a + d ≤ b → cz P (a + d) = cz P a) ?_ ?_
    · intro _; rw [Int.add_zero]
    · intro d hd ih hle
      have e : a + (d + 1) = (a + d) + 1 := by omega
      rw [e, cz_s P (by omega), ih (by omega), bi_f (h (a + d) (by omega) (by omega))]
      omega
  have e2 := key (b - a) (by omega) (by omega)
  have e3 : a + (b - a) = b := by omega
  rw [e3] at e2
  exact e2
theorem cz_c {P Q : Int → Bool} {z : Int} (h : ∀ p, 0 ≤ p → p < z → P p = Q p) : cz P z = cz Q z := by
  by_cases hz : 0 ≤ z
  · have key : ∀ d, 0 ≤ d → d ≤ z → cz P d = cz Q d := by
      refine zi_up (M := fun d => d ≤ z → cz P d = cz Q d) ?_ ?_
      · intro _; rw [cz_0 P (Int.le_refl 0), cz_0 Q (Int.le_refl 0)]
      · intro d hd ih hle
        rw [cz_s P hd, cz_s Q hd, ih (by omega), h d hd (by omega)]
    exact key z hz (Int.le_refl z)
  · rw [cz_0 P (by omega), cz_0 Q (by omega)]
theorem cz_mono (P : Int → Bool) {a b : Int} (h0 : 0 ≤ a) (hab : a ≤ b) : cz P a ≤ cz P b := by
  have key : ∀ d, 0 ≤ d → cz P a ≤ cz P (a + d) := by
    refine zi_up (M := fun d => cz P a ≤ cz P (a + d)) ?_ ?_
    · show cz P a ≤ cz P (a + 0)
      rw [Int.add_zero]; exact Int.le_refl _
    · intro d hd ih
      have e : a + (d + 1) = (a + d) + 1 := by omega
      show cz P a ≤ cz P (a + (d + 1))
      rw [e, cz_s P (by omega)]
      have := bi_b (P (a + d))
      have ih : cz P a ≤ cz P (a + d) := ih
      omega
  have e2 := key (b - a) (by omega)
  have e3 : a + (b - a) = b := by omega
  rw [e3] at e2
  exact e2
theorem cz_lt {P : Int → Bool} {a b : Int} (h0 : 0 ≤ a) (hab : a < b) (h : P a = true) : cz P a < cz P b := by
  have h1 := cz_mono P (a := a + 1) (b := b) (by omega) (by omega)
  rw [cz_s P h0, bi_t h] at h1
  omega
theorem cz_inj {P : Int → Bool} {a b : Int} (ha : 0 ≤ a) (hb : 0 ≤ b) (h1 : P a = true) (h2 : P b = true) (h : cz P a = cz P b) : a = b := by
  by_cases c : a < b
  · have := cz_lt ha c h1; omega
  · by_cases d : b < a
    · have := cz_lt hb d h2; omega
    · omega
/-- one is changed -/
theorem cz_up {P Q : Int → Bool} {z k : Int} (hk0 : 0 ≤ k) (hk : k < z) (h : ∀ p, 0 ≤ p → p < z → p ≠ k → Q p = P p) : cz Q z = cz P z + bi (Q k) - bi (P k) := by
  have key : ∀ d, 0 ≤ d → d ≤ z → cz Q d = cz P d + (if k < d then bi (Q k) - bi (P k) else 0) := by
    refine zi_up (M := fun d => d ≤ z → cz Q d = cz P d + (if k < d then bi (Q k) - bi (P k) else 0)) ?_ ?_
    · intro _
      rw [cz_0 P (Int.le_refl 0), cz_0 Q (Int.le_refl 0), if_neg (by omega)]; rfl
    · intro d hd ih hle
      rw [cz_s P hd, cz_s Q hd, ih (by omega)]
      by_cases e : d = k
      · rw [if_neg (by omega), if_pos (by omega), e]; omega
      · rw [h d hd (by omega) e]
        by_cases e2 : k < d
        · rw [if_pos e2, if_pos (by omega)]; omega
        · rw [if_neg e2, if_neg (by omega)]; omega
  rw [key z (by omega) (Int.le_refl z), if_pos hk]
  omega
theorem cz_hit (P : Int → Bool) {z : Int} (hz : 0 ≤ z) : ∀ k, 0 ≤ k → k < cz P z → ∃ p, 0 ≤ p ∧ p < z ∧ P p = true ∧ cz P p = k := by
  refine zi_up (M := fun z => ∀ k, 0 ≤ k → k < cz P z → ∃ p, 0 ≤ p ∧ p < z ∧ P p = true ∧ cz P p = k) ?_ ?_ z hz
  · intro k h0 h1
    rw [cz_0 P (Int.le_refl 0)] at h1; omega
  · intro z hz ih k h0 h1
    rw [cz_s P hz] at h1
    by_cases c : k < cz P z
    · obtain ⟨p, q1, q2, q3, q4⟩ := ih k h0 c
      exact ⟨p, q1, by omega, q3, q4⟩
    · cases hp : P z with
      | false => rw [bi_f hp] at h1; omega
      | true => rw [bi_t hp] at h1; exact ⟨z, hz, by omega, hp, by omega⟩
theorem cz_ex {P : Int → Bool} {z : Int} (h : 0 < cz P z) : ∃ p, 0 ≤ p ∧ p < z ∧ P p = true := by
  by_cases hz : 0 ≤ z
  · obtain ⟨p, a, b, c, -⟩ := cz_hit P hz 0 (by omega) h
    exact ⟨p, a, b, c⟩
  · rw [cz_0 P (by omega)] at h; omega
theorem cz_none {P : Int → Bool} {z : Int} (h : cz P z = 0) : ∀ p, 0 ≤ p → p < z → P p = false := by
  intro p h0 h1
  cases hp : P p with
  | false => rfl
  | true =>
    have a := cz_lt h0 h1 hp
    have b := (cz_b P h0).1
    omega
theorem cz_nil {P : Int → Bool} {z : Int} (h : ∀ p, 0 ≤ p → p < z → P p = false) : cz P z = 0 := by
  by_cases hz : 0 ≤ z
  · rw [cz_skip (Int.le_refl 0) hz h, cz_0 P (Int.le_refl 0)]
  · exact cz_0 P (by omega)
/-- a list li, c long, of those among 0 .. z - 1 that are such, in their order -/
def lsts (P : Int → Bool) (z : Int) (li : Int → Int) (c : Int) : Prop := c = cz P z ∧ ∀ p, 0 ≤ p → p < z → P p = true → li (cz P p) = p
theorem lsts_1 {P : Int → Bool} {z c : Int} {li : Int → Int} (hz : 0 ≤ z) (hp : P z = true) (h : lsts P z li c) : lsts P (z + 1) (zu li c z) (c + 1) := by
  refine ⟨by rw [cz_s P hz, bi_t hp, h.1], fun p h0 h1 h2 => ?_⟩
  by_cases e : p = z
  · rw [e, ← h.1, zu_s]
  · have h3 := cz_lt h0 (show p < z by omega) h2
    rw [zu_n _ _ (by rw [h.1]; omega)]
    exact h.2 p h0 (by omega) h2
theorem lsts_0 {P : Int → Bool} {z c : Int} {li : Int → Int} (hz : 0 ≤ z) (hp : P z = false) (h : lsts P z li c) : lsts P (z + 1) li c := by
  refine ⟨by rw [cz_s P hz, bi_f hp, h.1]; omega, fun p h0 h1 h2 => ?_⟩
  have e : p ≠ z := fun q => by rw [q, hp] at h2; cases h2
  exact h.2 p h0 (by omega) h2
theorem lsts_n {P : Int → Bool} {z : Int} {li : Int → Int} (h : ∀ p, 0 ≤ p → p < z → P p = false) : lsts P z li 0 :=
  ⟨(cz_nil h).symm, fun p h0 h1 h2 => by rw [h p h0 h1] at h2; cases h2⟩
theorem lsts_skip {P : Int → Bool} {a b c : Int} {li : Int → Int} (h0 : 0 ≤ a) (hab : a ≤ b) (hn : ∀ p, a ≤ p → p < b → P p = false) (h : lsts P a li c) : lsts P b li c :=
  ⟨by rw [cz_skip h0 hab hn]; exact h.1, fun p q0 q1 q2 => by
    by_cases e : p < a
    · exact h.2 p q0 e q2
    · rw [hn p (by omega) q1] at q2; cases q2⟩
theorem lsts_c {P Q : Int → Bool} {z c : Int} {li : Int → Int} (hPQ : ∀ p, 0 ≤ p → p < z → P p = Q p) (h : lsts P z li c) : lsts Q z li c :=
  ⟨by rw [← cz_c hPQ]; exact h.1, fun p h0 h1 h2 => by
    rw [← cz_c (P := P) (Q := Q) (fun r a b => hPQ r a (by omega))]
    exact h.2 p h0 h1 (by rw [hPQ p h0 h1]; exact h2)⟩
theorem lsts_get {P : Int → Bool} {z c : Int} {li : Int → Int} (hz : 0 ≤ z) (h : lsts P z li c) {k : Int} (h0 : 0 ≤ k) (h1 : k < c) : 0 ≤ li k ∧ li k < z ∧ P (li k) = true ∧ cz P (li k) = k := by
  obtain ⟨p, a, b, d, e⟩ := cz_hit P hz k h0 (by rw [← h.1]; exact h1)
  have f := h.2 p a b d
  rw [e] at f
  rw [f]
  exact ⟨a, b, d, e⟩
theorem lsts_b {P : Int → Bool} {z c : Int} {li : Int → Int} (hz : 0 ≤ z) (h : lsts P z li c) : 0 ≤ c ∧ c ≤ z := by
  rw [h.1]; exact cz_b P hz
/-! the grid -/
theorem ix_b {i j W D : Int} (h1 : 0 ≤ i) (h2 : i < W) (h3 : 0 ≤ j) (h4 : j < D) : 0 ≤ j * W + i ∧ j * W + i < W * D := by
  have a : 0 ≤ j * W := Int.mul_nonneg h3 (by omega)
  have b : (j + 1) * W ≤ D * W := Int.mul_le_mul_of_nonneg_right (by omega) (by omega)
  rw [Int.add_mul, Int.one_mul, Int.mul_comm D W] at b
  omega
theorem ix_div {i j W : Int} (h1 : 0 ≤ i) (h2 : i < W) : (j * W + i) / W = j ∧ (j * W + i) % W = i := by
  have e : j * W + i = i + j * W := by omega
  rw [e]
  refine ⟨?_, ?_⟩
  · rw [Int.add_mul_ediv_right _ _ (by omega), Int.ediv_eq_zero_of_lt h1 h2]; omega
  · rw [Int.add_mul_emod_self_right, Int.emod_eq_of_lt h1 h2]
theorem ix_inj {i j i' j' W : Int} (h1 : 0 ≤ i) (h2 : i < W) (h3 : 0 ≤ i') (h4 : i' < W) (h : j * W + i = j' * W + i') : i = i' ∧ j = j' := by
  have a := ix_div (j := j) h1 h2
  have b := ix_div (j := j') h3 h4
  rw [h] at a
  exact ⟨a.2.symm.trans b.2, a.1.symm.trans b.1⟩
theorem ix_of {p W D : Int} (hW : 0 < W) (h0 : 0 ≤ p) (h1 : p < W * D) : 0 ≤ p % W ∧ p % W < W ∧ 0 ≤ p / W ∧ p / W < D ∧ p / W * W + p % W = p := by
  have a := Int.emod_nonneg p (b := W) (by omega)
  have b := Int.emod_lt_of_pos p hW
  have c := Int.mul_ediv_add_emod p W
  have d : 0 ≤ p / W := Int.ediv_nonneg h0 (by omega)
  have e : p / W < D := by
    apply Int.ediv_lt_of_lt_mul hW
    rw [Int.mul_comm D W]; exact h1
  have f : p / W * W = W * (p / W) := Int.mul_comm _ _
  refine ⟨a, b, d, e, by omega⟩
theorem sq_le {a b : Int} (h : (0 ≤ a ∧ a ≤ b) ∨ (b ≤ a ∧ a ≤ 0)) : a * a ≤ b * b := by
  rcases h with ⟨h1, h2⟩ | ⟨h1, h2⟩
  · exact Int.mul_self_le_mul_self h1 h2
  · have := Int.mul_self_le_mul_self (a := -a) (b := -b) (by omega) (by omega)
    rw [Int.neg_mul_neg, Int.neg_mul_neg] at this
    exact this
theorem sq_0 (a : Int) : 0 ≤ a * a := by
  rcases (show 0 ≤ a ∨ a ≤ 0 by omega) with h | h
  · exact Int.mul_nonneg h h
  · have := Int.mul_nonneg (a := -a) (b := -a) (by omega) (by omega)
    rw [Int.neg_mul_neg] at this
    exact this
/-! roots of 0 .. 100, in steps of 2^-20, rounded down -/
def rtL : List Int := [0, 1048576, 1482910, 1816186, 2097152, 2344687, 2568476, 2774271, 2965820, 3145728, 3315888, 3477733, 3632373, 3780694, 3923412, 4061117, 4194304, 4323389, 4448731, 4570636, 4689374, 4805178, 4918257, 5028793, 5136952, 5242880, 5346709, 5448560, 5548542, 5646754, 5743287, 5838224, 5931641, 6023610, 6114196, 6203459, 6291456, 6378238, 6463856, 6548355, 6631776, 6714162, 6795549, 6875972, 6955466, 7034061, 7111788, 7188674, 7264747, 7340032, 7414552, 7488330, 7561389, 7633748, 7705428, 7776447, 7846824, 7916575, 7985716, 8054265, 8122234, 8189640, 8256495, 8322813, 8388608, 8453889, 8518671, 8582964, 8646779, 8710126, 8773016, 8835458, 8897462, 8959037, 9020191, 9080934, 9141273, 9201217, 9260772, 9319947, 9378748, 9437184, 9495259, 9552982, 9610357, 9667393, 9724093, 9780465, 9836514, 9892246, 9947665, 10002777, 10057587, 10112100, 10166321, 10220254, 10273904, 10327275, 10380372, 10433199, 10485760]
def rt (m : Int) : Int := rtL.getD m.toNat 0
theorem rt_md : ∀ a : Fin 101, ∀ b : Fin 101, a.val ≤ b.val → rtL.getD a.val 0 ≤ rtL.getD b.val 0 := by decide +kernel
theorem rt_bd : ∀ a : Fin 101, 0 ≤ rtL.getD a.val 0 ∧ rtL.getD a.val 0 ≤ 10485760 := by decide +kernel
theorem rt_sd : ∀ a : Fin 11, rtL.getD (a.val * a.val) 0 = (a.val : Int) * 1048576 := by decide +kernel
theorem rt_mono {a b : Int} (h0 : 0 ≤ a) (h : a ≤ b) (h1 : b ≤ 100) : rt a ≤ rt b := rt_md ⟨a.toNat, by omega⟩ ⟨b.toNat, by omega⟩ (by show a.toNat ≤ b.toNat; omega)
theorem rt_b {a : Int} (h0 : 0 ≤ a) (h1 : a ≤ 100) : 0 ≤ rt a ∧ rt a ≤ 10485760 := rt_bd ⟨a.toNat, by omega⟩
theorem rt_sq {r : Int} (h0 : 0 ≤ r) (h1 : r ≤ 10) : rt (r * r) = r * 1048576 := by
  obtain ⟨k, rfl⟩ := Int.eq_ofNat_of_zero_le h0
  have e : ((k : Int) * (k : Int)).toNat = k * k := by rw [← Int.natCast_mul]; exact Int.toNat_natCast _
  rw [rt, e]
  exact rt_sd ⟨k, by omega⟩
theorem rr_b {r : Int} (h0 : 1 ≤ r) (h1 : r ≤ 10) : 1 ≤ r * r ∧ r * r ≤ 100 := by
  have a := sq_le (a := 1) (b := r) (Or.inl ⟨by omega, h0⟩)
  have b := sq_le (a := r) (b := 10) (Or.inl ⟨by omega, h1⟩)
  omega
/-- how far the centre is above a tip that the ball touches, by the step from the place; far below all where there is none -/
def lift (r dx dy : Int) : Int := if dx * dx + dy * dy ≤ r * r then rt (r * r - (dx * dx + dy * dy)) else -1073741824
theorem lift_b {r dx dy : Int} (h0 : 1 ≤ r) (h1 : r ≤ 10) : -1073741824 ≤ lift r dx dy ∧ lift r dx dy ≤ r * 1048576 := by
  have a := rr_b h0 h1
  have b := sq_0 dx
  have c := sq_0 dy
  unfold lift
  split
  · have d := rt_b (a := r * r - (dx * dx + dy * dy)) (by omega) (by omega)
    have e := rt_mono (a := r * r - (dx * dx + dy * dy)) (b := r * r) (by omega) (by omega) (by omega)
    rw [rt_sq (by omega) h1] at e
    omega
  · omega
theorem lift_near {r dx dy : Int} (h0 : 1 ≤ r) (h1 : r ≤ 10) (h : dx * dx + dy * dy ≤ r * r) : 0 ≤ lift r dx dy := by
  have a := rr_b h0 h1
  have b := sq_0 dx
  have c := sq_0 dy
  rw [lift, if_pos h]
  exact (rt_b (by omega) (by omega)).1
theorem lift_far {r dx dy : Int} (h : ¬ dx * dx + dy * dy ≤ r * r) : lift r dx dy = -1073741824 := by rw [lift, if_neg h]
theorem lift_le {r dx dx' dy dy' : Int} (h0 : 1 ≤ r) (h1 : r ≤ 10) (h : dx * dx + dy * dy ≤ dx' * dx' + dy' * dy') : lift r dx' dy' ≤ lift r dx dy := by
  have a := rr_b h0 h1
  have b := sq_0 dx
  have c := sq_0 dy
  by_cases d : dx' * dx' + dy' * dy' ≤ r * r
  · rw [lift, if_pos d, lift, if_pos (by omega)]
    exact rt_mono (by omega) (by omega) (by omega)
  · rw [lift_far d]
    exact (lift_b h0 h1).1
theorem lift_out {r dx dy : Int} (h0 : 1 ≤ r) (h : dx < -r ∨ r < dx ∨ dy < -r ∨ r < dy) : lift r dx dy = -1073741824 := by
  apply lift_far
  have b := sq_0 dx
  have c := sq_0 dy
  have e : ∀ d : Int, (d < -r ∨ r < d) → r * r < d * d := by
    intro d hd
    rcases hd with q | q
    · have := sq_le (a := r + 1) (b := -d) (Or.inl ⟨by omega, by omega⟩)
      rw [Int.neg_mul_neg] at this
      have e2 : (r + 1) * (r + 1) = r * r + 2 * r + 1 := by grind
      omega
    · have := sq_le (a := r + 1) (b := d) (Or.inl ⟨by omega, by omega⟩)
      have e2 : (r + 1) * (r + 1) = r * r + 2 * r + 1 := by grind
      omega
  rcases h with q | q | q | q
  · have := e dx (Or.inl q); omega
  · have := e dx (Or.inr q); omega
  · have := e dy (Or.inl q); omega
  · have := e dy (Or.inr q); omega
theorem lift_0 {r : Int} (h0 : 1 ≤ r) (h1 : r ≤ 10) : lift r 0 0 = r * 1048576 := by
  have a := rr_b h0 h1
  rw [lift, if_pos (by omega)]
  have e : r * r - (0 * 0 + 0 * 0) = r * r := by omega
  rw [e]
  exact rt_sq (by omega) h1
end
section
/-! The class's fixed tables; what the ball reaches; the invariant of a climb. -/
def GE (W D_ r sz : Int) (co ro ho ac al sd lf sq : Int → Int) : Prop :=
  (1 ≤ W ∧ W ≤ 12 ∧ 1 ≤ D_ ∧ D_ ≤ 12 ∧ 1 ≤ r ∧ r ≤ 10) ∧
  (∀ i j, 0 ≤ i → i < W → 0 ≤ j → j < D_ → co (j * W + i) = i ∧ ro (j * W + i) = j ∧ ho (j * W + i) = (j + r) * (W + 2 * r) + (i + r)) ∧
  (1 ≤ sz ∧ sz ≤ 441) ∧
  (∀ k, 0 ≤ k → k < sz → ac k * ac k + al k * al k ≤ r * r ∧ sd k = al k * (W + 2 * r) + ac k ∧ lf k = lift r (ac k) (al k)) ∧
  (∀ dx dy, dx * dx + dy * dy ≤ r * r → ∃ k, 0 ≤ k ∧ k < sz ∧ ac k = dx ∧ al k = dy) ∧
  (∀ k k', 0 ≤ k → k < sz → 0 ≤ k' → k' < sz → ac k = ac k' → al k = al k' → k = k') ∧
  (∀ k k', 0 ≤ k → k ≤ k' → k' < sz → lf k' ≤ lf k) ∧
  (∀ dx dy, -r ≤ dx → dx ≤ r → -r ≤ dy → dy ≤ r → sq ((dy + r) * (2 * r + 1) + (dx + r)) = lift r dx dy)
theorem wd_b {W D_ : Int} (h1 : 1 ≤ W) (h2 : W ≤ 12) (h3 : 1 ≤ D_) (h4 : D_ ≤ 12) : 1 ≤ W * D_ ∧ W * D_ ≤ 144 := by
  have a := Int.mul_le_mul (a := 1) (b := 1) (c := W) (d := D_) h1 h3 (by omega) (by omega)
  have b := Int.mul_le_mul (a := W) (b := D_) (c := 12) (d := 12) h2 h4 (by omega) (by omega)
  omega
theorem pl_b {W D_ r : Int} (h1 : 1 ≤ W) (h2 : W ≤ 12) (h3 : 1 ≤ D_) (h4 : D_ ≤ 12) (h5 : 1 ≤ r) (h6 : r ≤ 10) : 1 ≤ (W + 2 * r) * (D_ + 2 * r) ∧ (W + 2 * r) * (D_ + 2 * r) ≤ 1024 := by
  have a := Int.mul_le_mul (a := 1) (b := 1) (c := W + 2 * r) (d := D_ + 2 * r) (by omega) (by omega) (by omega) (by omega)
  have b := Int.mul_le_mul (a := W + 2 * r) (b := D_ + 2 * r) (c := 32) (d := 32) (by omega) (by omega) (by omega) (by omega)
  omega
theorem sd_b {r : Int} (h5 : 1 ≤ r) (h6 : r ≤ 10) : 1 ≤ (2 * r + 1) * (2 * r + 1) ∧ (2 * r + 1) * (2 * r + 1) ≤ 441 := by
  have a := Int.mul_le_mul (a := 1) (b := 1) (c := 2 * r + 1) (d := 2 * r + 1) (by omega) (by omega) (by omega) (by omega)
  have b := Int.mul_le_mul (a := 2 * r + 1) (b := 2 * r + 1) (c := 21) (d := 21) (by omega) (by omega) (by omega) (by omega)
  omega
/-- how high the centre is at least, at a place, for a point -/
def rch (W r x y : Int) (tq : Int → Int) (p : Int) : Int := tq p + lift r (p % W - x) (p / W - y)
theorem rch_ij {W r x y i j : Int} {tq : Int → Int} (h1 : 0 ≤ i) (h2 : i < W) : rch W r x y tq (j * W + i) = tq (j * W + i) + lift r (i - x) (j - y) := by
  have a := ix_div (j := j) h1 h2
  rw [rch, a.1, a.2]
def clI (W r x y at_ N : Int) (tq : Int → Int) (z rest cnt : Int) (li : Int → Int) : Prop :=
  at_ ≤ rest ∧ (rest = at_ ∨ ∃ p, 0 ≤ p ∧ p < N ∧ rch W r x y tq p = rest) ∧ (∀ p, 0 ≤ p → p < z → rch W r x y tq p ≤ rest) ∧ lsts (fun p => decide (rch W r x y tq p = rest)) z li cnt
theorem cl_gt {W r x y at_ N z rest cnt : Int} {tq li : Int → Int} (hz : 0 ≤ z) (hN : z < N) (h : rest < rch W r x y tq z) (I : clI W r x y at_ N tq z rest cnt li) : clI W r x y at_ N tq (z + 1) (rch W r x y tq z) 1 (zu li 0 z) := by
  obtain ⟨h1, h2, h3, h4⟩ := I
  refine ⟨by omega, Or.inr ⟨z, hz, hN, rfl⟩, fun p p0 p1 => ?_, ?_⟩
  · by_cases e : p = z
    · rw [e]; exact Int.le_refl _
    · have := h3 p p0 (by omega); omega
  · have n : lsts (fun p => decide (rch W r x y tq p = rch W r x y tq z)) z li 0 := lsts_n (fun p p0 p1 => by
      have := h3 p p0 p1
      simp only [decide_eq_false_iff_not]; omega)
    exact lsts_1 hz (by simp) n
theorem cl_eq {W r x y at_ N z rest cnt : Int} {tq li : Int → Int} (hz : 0 ≤ z) (h : rch W r x y tq z = rest) (I : clI W r x y at_ N tq z rest cnt li) : clI W r x y at_ N tq (z + 1) rest (cnt + 1) (zu li cnt z) := by
  obtain ⟨h1, h2, h3, h4⟩ := I
  refine ⟨h1, h2, fun p p0 p1 => ?_, lsts_1 hz (by simp [h]) h4⟩
  by_cases e : p = z
  · rw [e, h]; exact Int.le_refl _
  · exact h3 p p0 (by omega)
theorem cl_skip {W r x y at_ N z z' rest cnt : Int} {tq li : Int → Int} (hz : 0 ≤ z) (hzz : z ≤ z') (h : ∀ p, z ≤ p → p < z' → rch W r x y tq p < rest) (I : clI W r x y at_ N tq z rest cnt li) : clI W r x y at_ N tq z' rest cnt li := by
  obtain ⟨h1, h2, h3, h4⟩ := I
  refine ⟨h1, h2, fun p p0 p1 => ?_, lsts_skip hz hzz (fun p q0 q1 => ?_) h4⟩
  · by_cases e : p < z
    · exact h3 p p0 e
    · have := h p (by omega) p1; omega
  · have := h p q0 q1
    simp only [decide_eq_false_iff_not]; omega
theorem cl_lt {W r x y at_ N z rest cnt : Int} {tq li : Int → Int} (hz : 0 ≤ z) (h : rch W r x y tq z < rest) (I : clI W r x y at_ N tq z rest cnt li) : clI W r x y at_ N tq (z + 1) rest cnt li :=
  cl_skip hz (by omega) (fun p q0 q1 => by rw [show p = z by omega]; exact h) I
/-- in a row: the points i .. i' - 1 of row j are too low -/
theorem cl_row {W r x y at_ N j i i' rest cnt : Int} {tq li : Int → Int} (hi : 0 ≤ i) (hii : i ≤ i') (hW : i' ≤ W) (hj : 0 ≤ j) (h : ∀ q, i ≤ q → q < i' → rch W r x y tq (j * W + q) < rest) (I : clI W r x y at_ N tq (j * W + i) rest cnt li) : clI W r x y at_ N tq (j * W + i') rest cnt li := by
  by_cases hW0 : 0 ≤ W
  · have h0 : 0 ≤ j * W := Int.mul_nonneg hj hW0
    refine cl_skip (by omega) (by omega) (fun p q0 q1 => ?_) I
    have e : p = j * W + (p - j * W) := by omega
    rw [e]
    exact h _ (by omega) (by omega)
  · omega
theorem rw_s (j W : Int) : (j + 1) * W = j * W + W := by rw [Int.add_mul, Int.one_mul]
/-- whole rows are too low -/
theorem cl_rows {W r x y at_ N j j' rest cnt : Int} {tq li : Int → Int} (hW : 1 ≤ W) (hj : 0 ≤ j) (hjj : j ≤ j') (h : ∀ i q, 0 ≤ i → i < W → j ≤ q → q < j' → rch W r x y tq (q * W + i) < rest) (I : clI W r x y at_ N tq (j * W) rest cnt li) : clI W r x y at_ N tq (j' * W) rest cnt li := by
  have key : ∀ d, 0 ≤ d → j + d ≤ j' → clI W r x y at_ N tq ((j + d) * W) rest cnt li := by
    refine zi_up (M := fun d => j + d ≤ j' → clI W r x y at_ N tq ((j + d) * W) rest cnt li) ?_ ?_
    · intro _
      rw [Int.add_zero]; exact I
    · intro d hd ih hle
      have e : j + (d + 1) = (j + d) + 1 := by omega
      rw [e, rw_s]
      have I2 := ih (by omega)
      rw [← Int.add_zero ((j + d) * W)] at I2
      exact cl_row (Int.le_refl 0) (by omega) (Int.le_refl W) (by omega) (fun q q0 q1 => h q (j + d) q0 q1 (by omega) (by omega)) I2
  have e2 := key (j' - j) (by omega) (by omega)
  rw [show j + (j' - j) = j' by omega] at e2
  exact e2
theorem cl_0 {W r x y at_ N rest : Int} {tq li : Int → Int} (h1 : at_ ≤ rest) (h2 : rest = at_ ∨ ∃ p, 0 ≤ p ∧ p < N ∧ rch W r x y tq p = rest) : clI W r x y at_ N tq (0 * W) rest 0 li := by
  rw [Int.zero_mul]
  exact ⟨h1, h2, fun p p0 p1 => by omega, lsts_n (fun p p0 p1 => by omega)⟩
theorem rch_far {W r x y i j : Int} {tq : Int → Int} (h0 : 1 ≤ r) (h1 : 0 ≤ i) (h2 : i < W) (ht : tq (j * W + i) ≤ 262144000) (h : i - x < -r ∨ r < i - x ∨ j - y < -r ∨ r < j - y) : rch W r x y tq (j * W + i) < 0 := by
  rw [rch_ij h1 h2, lift_out h0 h]
  omega
end
section
/-! What is kept of the ball at every place, and how a place's change keeps it. -/
def plx (W r P : Int) : Int := P % (W + 2 * r) - r
def ply (W r P : Int) : Int := P / (W + 2 * r) - r
theorem pl_at {W r x y : Int} (h1 : -r ≤ x) (h2 : x < W + r) : plx W r ((y + r) * (W + 2 * r) + (x + r)) = x ∧ ply W r ((y + r) * (W + 2 * r) + (x + r)) = y := by
  have a := ix_div (i := x + r) (j := y + r) (W := W + 2 * r) (by omega) (by omega)
  rw [plx, ply, a.1, a.2]
  omega
theorem pl_of {W D_ r P : Int} (hW : 1 ≤ W) (hr : 1 ≤ r) (h0 : 0 ≤ P) (h1 : P < (W + 2 * r) * (D_ + 2 * r)) : -r ≤ plx W r P ∧ plx W r P < W + r ∧ -r ≤ ply W r P ∧ ply W r P < D_ + r ∧ (ply W r P + r) * (W + 2 * r) + (plx W r P + r) = P := by
  have a := ix_of (p := P) (W := W + 2 * r) (D := D_ + 2 * r) (by omega) h0 h1
  have e1 : ply W r P + r = P / (W + 2 * r) := by rw [ply]; omega
  have e2 : plx W r P + r = P % (W + 2 * r) := by rw [plx]; omega
  rw [e1, e2]
  refine ⟨?_, ?_, ?_, ?_, a.2.2.2.2⟩ <;> simp only [plx, ply] <;> omega
theorem pl_in {W D_ r x y : Int} (hx1 : -r ≤ x) (hx2 : x < W + r) (hy1 : -r ≤ y) (hy2 : y < D_ + r) : 0 ≤ (y + r) * (W + 2 * r) + (x + r) ∧ (y + r) * (W + 2 * r) + (x + r) < (W + 2 * r) * (D_ + 2 * r) :=
  ix_b (i := x + r) (j := y + r) (W := W + 2 * r) (D := D_ + 2 * r) (by omega) (by omega) (by omega) (by omega)
/-- a point is touched at a place where the ball's centre is at R -/
def tch (W r x y : Int) (ts : Int → Int) (R p : Int) : Bool := decide (rch W r x y ts p = R)
theorem tch_t {W r x y R p : Int} {ts : Int → Int} : tch W r x y ts R p = true ↔ rch W r x y ts p = R := by simp [tch]
theorem tch_f {W r x y R p : Int} {ts : Int → Int} : tch W r x y ts R p = false ↔ ¬ rch W r x y ts p = R := by simp [tch]
/-- R is the rest at (x, y), T points are touched, O is one of them -/
def PLv (W N r x y : Int) (ts : Int → Int) (R T O : Int) : Prop :=
  r * 1048576 ≤ R ∧ (R = r * 1048576 ∨ ∃ p, 0 ≤ p ∧ p < N ∧ rch W r x y ts p = R) ∧ (∀ p, 0 ≤ p → p < N → rch W r x y ts p ≤ R) ∧ T = cz (tch W r x y ts R) N ∧ ((O = -1 ∧ T = 0) ∨ (0 ≤ O ∧ O < N ∧ rch W r x y ts O = R))
theorem PLv_T {W N r x y R T O : Int} {ts : Int → Int} (h : PLv W N r x y ts R T O) : (O = -1 → T = 0) ∧ (O ≠ -1 → 0 ≤ O ∧ O < N ∧ rch W r x y ts O = R ∧ 0 < T) := by
  obtain ⟨h1, h2, h3, h4, h5⟩ := h
  rcases h5 with ⟨a, b⟩ | ⟨a, b, d⟩
  · exact ⟨fun _ => b, fun q => absurd a q⟩
  · refine ⟨fun q => by omega, fun _ => ⟨a, b, d, ?_⟩⟩
    have := cz_lt (P := tch W r x y ts R) a b (tch_t.mpr d)
    have := cz_b (tch W r x y ts R) a
    omega
/-- the same values do for other tips, if nothing that is touched changes and nothing rises above -/
theorem PLv_c {W N r x y R T O : Int} {ts ts' : Int → Int} (h : PLv W N r x y ts R T O) (he : ∀ p, 0 ≤ p → p < N → tch W r x y ts' R p = tch W r x y ts R p) (hle : ∀ p, 0 ≤ p → p < N → rch W r x y ts' p ≤ R) : PLv W N r x y ts' R T O := by
  obtain ⟨h1, h2, h3, h4, h5⟩ := h
  refine ⟨h1, ?_, hle, by rw [h4]; exact (cz_c he).symm, ?_⟩
  · rcases h2 with a | ⟨p, a, b, d⟩
    · exact Or.inl a
    · exact Or.inr ⟨p, a, b, tch_t.mp ((he p a b).trans (tch_t.mpr d))⟩
  · rcases h5 with a | ⟨a, b, d⟩
    · exact Or.inl a
    · exact Or.inr ⟨a, b, tch_t.mp ((he O a b).trans (tch_t.mpr d))⟩
/-- out of a climb from the ground, or from a rest that is there -/
theorem PLv_cl {W N r x y at_ R T : Int} {ts li : Int → Int} (hN : 0 ≤ N) (h : clI W r x y at_ N ts N R T li) (ha : r * 1048576 ≤ at_) (hb : at_ = r * 1048576 ∨ R ≠ at_ ∨ 0 < T) : PLv W N r x y ts R T (if 0 < T then li 0 else -1) := by
  obtain ⟨h1, h2, h3, h4⟩ := h
  have hb2 := lsts_b hN h4
  have hP : (fun p => decide (rch W r x y ts p = R)) = tch W r x y ts R := rfl
  rw [hP] at h4
  by_cases hT : 0 < T
  · have g := lsts_get hN h4 (Int.le_refl 0) hT
    rw [if_pos hT]
    exact ⟨by omega, Or.inr ⟨li 0, g.1, g.2.1, tch_t.mp g.2.2.1⟩, h3, h4.1, Or.inr ⟨g.1, g.2.1, tch_t.mp g.2.2.1⟩⟩
  · rw [if_neg hT]
    refine ⟨by omega, ?_, h3, h4.1, Or.inl ⟨rfl, by omega⟩⟩
    rcases h2 with q | ⟨p, q1, q2, q3⟩
    · left
      rcases hb with b | b | b
      · omega
      · exact absurd q b
      · exact absurd b hT
    · have := cz_lt (P := tch W r x y ts R) q1 q2 (tch_t.mpr q3)
      have := cz_b (tch W r x y ts R) q1
      have := h4.1
      omega
/-- all places: place P by the tips tm P -/
def BIm (W D_ r : Int) (tm : Int → Int → Int) (re tc ow hc : Int → Int) : Prop :=
  (∀ P, 0 ≤ P → P < (W + 2 * r) * (D_ + 2 * r) → PLv W (W * D_) r (plx W r P) (ply W r P) (tm P) (re P) (tc P) (ow P)) ∧
  ∀ p, 0 ≤ p → p < W * D_ → hc p = cz (fun P => tch W r (plx W r P) (ply W r P) (tm P) (re P) p) ((W + 2 * r) * (D_ + 2 * r))
def BI (W D_ r : Int) (ts re tc ow hc : Int → Int) : Prop := BIm W D_ r (fun _ => ts) re tc ow hc
theorem BIm_up {W D_ r P0 R T O : Int} {tm : Int → Int → Int} {re tc ow hc hc' ts' : Int → Int} (h : BIm W D_ r tm re tc ow hc) (h0 : 0 ≤ P0) (h1 : P0 < (W + 2 * r) * (D_ + 2 * r)) (hp : PLv W (W * D_) r (plx W r P0) (ply W r P0) ts' R T O)
    (hh : ∀ p, 0 ≤ p → p < W * D_ → hc' p = hc p + bi (tch W r (plx W r P0) (ply W r P0) ts' R p) - bi (tch W r (plx W r P0) (ply W r P0) (tm P0) (re P0) p)) : BIm W D_ r (zu tm P0 ts') (zu re P0 R) (zu tc P0 T) (zu ow P0 O) hc' := by
  obtain ⟨g1, g2⟩ := h
  refine ⟨fun P p0 p1 => ?_, fun p p0 p1 => ?_⟩
  · by_cases e : P = P0
    · subst e
      simp only [zu_s]
      exact hp
    · simp only [zu_n _ _ e]
      exact g1 P p0 p1
  · rw [hh p p0 p1, g2 p p0 p1]
    have := cz_up (P := fun P => tch W r (plx W r P) (ply W r P) (tm P) (re P) p) (Q := fun P => tch W r (plx W r P) (ply W r P) (zu tm P0 ts' P) (zu re P0 R P) p) h0 h1 (fun P q0 q1 q2 => by simp only [zu_n _ _ q2])
    simp only [zu_s] at this
    omega
/-- other tips by place, where all that is touched is the same -/
theorem BIm_c {W D_ r : Int} {tm tm' : Int → Int → Int} {re tc ow hc : Int → Int} (h : BIm W D_ r tm re tc ow hc) (he : ∀ P, 0 ≤ P → P < (W + 2 * r) * (D_ + 2 * r) → tm' P = tm P ∨ ((∀ p, 0 ≤ p → p < W * D_ → tch W r (plx W r P) (ply W r P) (tm' P) (re P) p = tch W r (plx W r P) (ply W r P) (tm P) (re P) p) ∧ ∀ p, 0 ≤ p → p < W * D_ → rch W r (plx W r P) (ply W r P) (tm' P) p ≤ re P)) : BIm W D_ r tm' re tc ow hc := by
  obtain ⟨g1, g2⟩ := h
  refine ⟨fun P p0 p1 => ?_, fun p p0 p1 => ?_⟩
  · rcases he P p0 p1 with q | ⟨q1, q2⟩
    · rw [q]; exact g1 P p0 p1
    · exact PLv_c (g1 P p0 p1) q1 q2
  · rw [g2 p p0 p1]
    refine cz_c (fun P q0 q1 => ?_)
    rcases he P q0 q1 with q | ⟨q, -⟩
    · simp only [q]
    · exact (q p p0 p1).symm
/-- where one tip is another -/
theorem rch_zu {W r x y p q v : Int} {ts : Int → Int} (h : q ≠ p) : rch W r x y (zu ts p v) q = rch W r x y ts q := by rw [rch, rch, zu_n _ _ h]
theorem rch_zs {W r x y p v : Int} {ts : Int → Int} : rch W r x y (zu ts p v) p = v + lift r (p % W - x) (p / W - y) := by rw [rch, zu_s]
/-- a place where a tip that has changed is not touched, before and behind -/
theorem PLv_zu {W N r x y R T O p v : Int} {ts : Int → Int} (h : PLv W N r x y ts R T O) (h1 : rch W r x y ts p ≠ R) (h2 : rch W r x y (zu ts p v) p < R) :
    (∀ q, 0 ≤ q → q < N → tch W r x y (zu ts p v) R q = tch W r x y ts R q) ∧ ∀ q, 0 ≤ q → q < N → rch W r x y (zu ts p v) q ≤ R := by
  refine ⟨fun q q0 q1 => ?_, fun q q0 q1 => ?_⟩
  · by_cases e : q = p
    · subst e
      rw [tch_f.mpr h1, tch_f.mpr (by omega)]
    · simp only [tch, rch_zu e]
  · by_cases e : q = p
    · subst e; omega
    · rw [rch_zu e]; exact h.2.2.1 q q0 q1
/-- a tip rises just to where the ball is -/
theorem PLv_eq {W N r x y R T O p v : Int} {ts : Int → Int} (h : PLv W N r x y ts R T O) (hp0 : 0 ≤ p) (hp1 : p < N) (h1 : rch W r x y ts p < R) (h2 : rch W r x y (zu ts p v) p = R) :
    PLv W N r x y (zu ts p v) R (T + 1) p ∧ ∀ q, 0 ≤ q → q < N → bi (tch W r x y (zu ts p v) R q) = bi (tch W r x y ts R q) + bi (decide (q = p)) := by
  have key : ∀ q, q ≠ p → tch W r x y (zu ts p v) R q = tch W r x y ts R q := fun q e => by simp only [tch, rch_zu e]
  have k1 : tch W r x y (zu ts p v) R p = true := tch_t.mpr h2
  have k2 : tch W r x y ts R p = false := tch_f.mpr (by omega)
  obtain ⟨g1, g2, g3, g4, g5⟩ := h
  refine ⟨⟨g1, Or.inr ⟨p, hp0, hp1, h2⟩, fun q q0 q1 => ?_, ?_, Or.inr ⟨hp0, hp1, h2⟩⟩, fun q q0 q1 => ?_⟩
  · by_cases e : q = p
    · subst e; omega
    · rw [rch_zu e]; exact g3 q q0 q1
  · rw [g4, cz_up (P := tch W r x y ts R) (Q := tch W r x y (zu ts p v) R) hp0 hp1 (fun q _ _ e => key q e), k1, k2, bi_t rfl, bi_f rfl]
    omega
  · by_cases e : q = p
    · subst e
      rw [k1, k2]; simp [bi]
    · rw [key q e]; simp [bi, e]
/-- a tip rises above where the ball is -/
theorem PLv_gt {W N r x y R T O p v : Int} {ts : Int → Int} (h : PLv W N r x y ts R T O) (hp0 : 0 ≤ p) (hp1 : p < N) (h2 : R < rch W r x y (zu ts p v) p) :
    PLv W N r x y (zu ts p v) (rch W r x y (zu ts p v) p) 1 p ∧ ∀ q, 0 ≤ q → q < N → bi (tch W r x y (zu ts p v) (rch W r x y (zu ts p v) p) q) = bi (decide (q = p)) := by
  obtain ⟨g1, g2, g3, g4, g5⟩ := h
  have key : ∀ q, 0 ≤ q → q < N → q ≠ p → tch W r x y (zu ts p v) (rch W r x y (zu ts p v) p) q = false := fun q q0 q1 e => by
    have := g3 q q0 q1
    rw [tch_f, rch_zu e]; omega
  have k1 : tch W r x y (zu ts p v) (rch W r x y (zu ts p v) p) p = true := tch_t.mpr rfl
  refine ⟨⟨by omega, Or.inr ⟨p, hp0, hp1, rfl⟩, fun q q0 q1 => ?_, ?_, Or.inr ⟨hp0, hp1, rfl⟩⟩, fun q q0 q1 => ?_⟩
  · by_cases e : q = p
    · subst e; omega
    · rw [rch_zu e]; have := g3 q q0 q1; omega
  · rw [cz_up (P := fun _ => false) (Q := tch W r x y (zu ts p v) (rch W r x y (zu ts p v) p)) hp0 hp1 (fun q q0 q1 e => key q q0 q1 e), k1, cz_nil (fun _ _ _ => rfl)]
    simp [bi]
  · by_cases e : q = p
    · subst e
      rw [k1]; simp [bi]
    · rw [key q q0 q1 e]; simp [bi, e]
/-! steps from a point to the places around it -/
theorem sq_in {a b r : Int} (hr : 0 ≤ r) (h : a * a + b * b ≤ r * r) : -r ≤ a ∧ a ≤ r ∧ -r ≤ b ∧ b ≤ r := by
  have key : ∀ d e : Int, d * d + e * e ≤ r * r → -r ≤ d ∧ d ≤ r := by
    intro d e h
    have e2 : (r + 1) * (r + 1) = r * r + 2 * r + 1 := by grind
    have h0 := sq_0 e
    refine ⟨?_, ?_⟩
    · by_cases c : d < -r
      · have := sq_le (a := r + 1) (b := -d) (Or.inl ⟨by omega, by omega⟩)
        rw [Int.neg_mul_neg] at this
        omega
      · omega
    · by_cases c : r < d
      · have := sq_le (a := r + 1) (b := d) (Or.inl ⟨by omega, by omega⟩)
        omega
      · omega
  have k1 := key a b h
  have k2 := key b a (by omega)
  exact ⟨k1.1, k1.2, k2.1, k2.2⟩
theorem lift_neg (r a b : Int) : lift r (-a) (-b) = lift r a b := by rw [lift, lift, Int.neg_mul_neg, Int.neg_mul_neg]
theorem ge_p {W D_ r sz : Int} {co ro ho ac al sd lf sq : Int → Int} (hG : GE W D_ r sz co ro ho ac al sd lf sq) {p : Int} (h0 : 0 ≤ p) (h1 : p < W * D_) :
    co p = p % W ∧ ro p = p / W ∧ ho p = (ro p + r) * (W + 2 * r) + (co p + r) ∧ 0 ≤ co p ∧ co p < W ∧ 0 ≤ ro p ∧ ro p < D_ ∧ p = ro p * W + co p := by
  obtain ⟨⟨hW1, hW2, hD1, hD2, hr1, hr2⟩, hGp, -⟩ := hG
  have a := ix_of (p := p) (W := W) (D := D_) (by omega) h0 h1
  have b := hGp (p % W) (p / W) a.1 a.2.1 a.2.2.1 a.2.2.2.1
  rw [a.2.2.2.2] at b
  obtain ⟨b1, b2, b3⟩ := b
  rw [b1, b2]
  exact ⟨rfl, rfl, b3, a.1, a.2.1, a.2.2.1, a.2.2.2.1, a.2.2.2.2.symm⟩
theorem ge_k {W D_ r sz : Int} {co ro ho ac al sd lf sq : Int → Int} (hG : GE W D_ r sz co ro ho ac al sd lf sq) {p k : Int} (h0 : 0 ≤ p) (h1 : p < W * D_) (k0 : 0 ≤ k) (k1 : k < sz) :
    ho p + sd k = (ro p + al k + r) * (W + 2 * r) + (co p + ac k + r) ∧ (-r ≤ co p + ac k ∧ co p + ac k < W + r) ∧ (-r ≤ ro p + al k ∧ ro p + al k < D_ + r) ∧ 0 ≤ ho p + sd k ∧ ho p + sd k < (W + 2 * r) * (D_ + 2 * r) ∧
      plx W r (ho p + sd k) = co p + ac k ∧ ply W r (ho p + sd k) = ro p + al k ∧ 0 ≤ lf k ∧ lf k ≤ r * 1048576 ∧ ∀ ts : Int → Int, rch W r (co p + ac k) (ro p + al k) ts p = ts p + lf k := by
  obtain ⟨a1, a2, a3, a4, a5, a6, a7, a8⟩ := ge_p hG h0 h1
  obtain ⟨⟨hW1, hW2, hD1, hD2, hr1, hr2⟩, hGp, hGs, hGk, -⟩ := hG
  obtain ⟨b1, b2, b3⟩ := hGk k k0 k1
  have b4 := sq_in (by omega) b1
  have e : ho p + sd k = (ro p + al k + r) * (W + 2 * r) + (co p + ac k + r) := by rw [a3, b2]; grind
  have x1 : -r ≤ co p + ac k ∧ co p + ac k < W + r := by omega
  have y1 : -r ≤ ro p + al k ∧ ro p + al k < D_ + r := by omega
  have c1 := pl_in (W := W) (D_ := D_) x1.1 x1.2 y1.1 y1.2
  have c2 := pl_at (W := W) (r := r) (x := co p + ac k) (y := ro p + al k) x1.1 x1.2
  rw [← e] at c1 c2
  have f := lift_b (dx := ac k) (dy := al k) hr1 hr2
  have g := lift_near hr1 hr2 b1
  rw [← b3] at f g
  refine ⟨e, x1, y1, c1.1, c1.2, c2.1, c2.2, g, f.2, fun ts => ?_⟩
  rw [rch, ← a1, ← a2, show co p - (co p + ac k) = -ac k by omega, show ro p - (ro p + al k) = -al k by omega, lift_neg, b3]
theorem ge_inj {W D_ r sz : Int} {co ro ho ac al sd lf sq : Int → Int} (hG : GE W D_ r sz co ro ho ac al sd lf sq) {p k k' : Int} (h0 : 0 ≤ p) (h1 : p < W * D_) (k0 : 0 ≤ k) (k1 : k < sz) (j0 : 0 ≤ k') (j1 : k' < sz) (h : ho p + sd k = ho p + sd k') : k = k' := by
  have a := ge_k hG h0 h1 k0 k1
  have b := ge_k hG h0 h1 j0 j1
  rw [h] at a
  have e1 : co p + ac k = co p + ac k' := a.2.2.2.2.2.1.symm.trans b.2.2.2.2.2.1
  have e2 : ro p + al k = ro p + al k' := a.2.2.2.2.2.2.1.symm.trans b.2.2.2.2.2.2.1
  exact hG.2.2.2.2.2.1 k k' k0 k1 j0 j1 (by omega) (by omega)
/-- a place from which a point is within reach is a step away -/
theorem ge_ex {W D_ r sz : Int} {co ro ho ac al sd lf sq : Int → Int} (hG : GE W D_ r sz co ro ho ac al sd lf sq) {p P : Int} (h0 : 0 ≤ p) (h1 : p < W * D_) (p0 : 0 ≤ P) (p1 : P < (W + 2 * r) * (D_ + 2 * r)) :
    lift r (p % W - plx W r P) (p / W - ply W r P) = -1073741824 ∨ ∃ k, 0 ≤ k ∧ k < sz ∧ P = ho p + sd k ∧ lift r (p % W - plx W r P) (p / W - ply W r P) = lf k := by
  by_cases c : (plx W r P - p % W) * (plx W r P - p % W) + (ply W r P - p / W) * (ply W r P - p / W) ≤ r * r
  · right
    have hG2 := hG
    obtain ⟨⟨hW1, hW2, hD1, hD2, hr1, hr2⟩, hGp, hGs, hGk, hGx, -⟩ := hG2
    obtain ⟨k, k0, k1, k2, k3⟩ := hGx _ _ c
    obtain ⟨a1, a2, -⟩ := ge_p hG h0 h1
    have b := ge_k hG h0 h1 k0 k1
    have d := pl_of (D_ := D_) hW1 hr1 p0 p1
    refine ⟨k, k0, k1, ?_, ?_⟩
    · rw [b.1, ← d.2.2.2.2]
      have e1 : ro p + al k + r = ply W r P + r := by omega
      have e2 : co p + ac k + r = plx W r P + r := by omega
      rw [e1, e2]
    · rw [(hGk k k0 k1).2.2, ← lift_neg r (ac k), k2, k3]
      congr 1 <;> omega
  · left
    have e1 : p % W - plx W r P = -(plx W r P - p % W) := by omega
    have e2 : p / W - ply W r P = -(ply W r P - p / W) := by omega
    rw [e1, e2, lift_neg]
    exact lift_far c
theorem zu_id {α : Type} {f : Int → α} {k : Int} {v : α} (h : f k = v) : zu f k v = f := by
  funext j
  by_cases e : j = k
  · rw [e, zu_s, h]
  · rw [zu_n _ _ e]
theorem zu_zu {α : Type} (f : Int → α) (k : Int) (u v : α) : zu (zu f k u) k v = zu f k v := by
  funext j
  by_cases e : j = k
  · rw [e, zu_s, zu_s]
  · rw [zu_n _ _ e, zu_n _ _ e, zu_n _ _ e]
theorem PLv_b {W N r x y R T O : Int} {ts : Int → Int} (hr : 1 ≤ r) (hr2 : r ≤ 10) (hN : 0 ≤ N) (h : PLv W N r x y ts R T O) (ht : ∀ p, 0 ≤ p → p < N → ts p ≤ 262144000) : 1048576 ≤ R ∧ R ≤ 272629760 ∧ 0 ≤ T ∧ T ≤ N := by
  obtain ⟨h1, h2, h3, h4, h5⟩ := h
  have c := cz_b (tch W r x y ts R) hN
  rw [← h4] at c
  refine ⟨by omega, ?_, c.1, c.2⟩
  rcases h2 with a | ⟨p, a, b, d⟩
  · omega
  · rw [rch] at d
    have e := lift_b (r := r) (dx := p % W - x) (dy := p / W - y) hr hr2
    have f := ht p a b
    omega
/-! a tip rises, place by place -/
def RIv (W D_ r : Int) (ho sd : Int → Int) (p0 : Int) (ts ts' : Int → Int) (i : Int) (tm : Int → Int → Int) (re tc ow hc : Int → Int) : Prop :=
  BIm W D_ r tm re tc ow hc ∧ (∀ j, 0 ≤ j → j < i → tm (ho p0 + sd j) = ts') ∧ ∀ P, 0 ≤ P → P < (W + 2 * r) * (D_ + 2 * r) → (∀ j, 0 ≤ j → j < i → P ≠ ho p0 + sd j) → tm P = ts
theorem RIv_at {W D_ r sz : Int} {co ro ho ac al sd lf sq : Int → Int} (hG : GE W D_ r sz co ro ho ac al sd lf sq) {p0 i : Int} {ts ts' : Int → Int} {tm : Int → Int → Int} {re tc ow hc : Int → Int} (h0 : 0 ≤ p0) (h1 : p0 < W * D_) (i0 : 0 ≤ i) (i1 : i < sz) (I : RIv W D_ r ho sd p0 ts ts' i tm re tc ow hc) :
    tm (ho p0 + sd i) = ts ∧ PLv W (W * D_) r (co p0 + ac i) (ro p0 + al i) ts (re (ho p0 + sd i)) (tc (ho p0 + sd i)) (ow (ho p0 + sd i)) := by
  have a := ge_k hG h0 h1 i0 i1
  have e : tm (ho p0 + sd i) = ts := I.2.2 _ a.2.2.2.1 a.2.2.2.2.1 (fun j j0 j1 q => by have := ge_inj hG h0 h1 i0 i1 j0 (by omega) q; omega)
  have b := I.1.1 _ a.2.2.2.1 a.2.2.2.2.1
  rw [e, a.2.2.2.2.2.1, a.2.2.2.2.2.2.1] at b
  exact ⟨e, b⟩
theorem RIv_up {W D_ r sz : Int} {co ro ho ac al sd lf sq : Int → Int} (hG : GE W D_ r sz co ro ho ac al sd lf sq) {p0 i R T O : Int} {ts ts' : Int → Int} {tm : Int → Int → Int} {re tc ow hc hc' : Int → Int} (h0 : 0 ≤ p0) (h1 : p0 < W * D_) (i0 : 0 ≤ i) (i1 : i < sz) (I : RIv W D_ r ho sd p0 ts ts' i tm re tc ow hc)
    (hp : PLv W (W * D_) r (co p0 + ac i) (ro p0 + al i) ts' R T O)
    (hh : ∀ p, 0 ≤ p → p < W * D_ → hc' p = hc p + bi (tch W r (co p0 + ac i) (ro p0 + al i) ts' R p) - bi (tch W r (co p0 + ac i) (ro p0 + al i) ts (re (ho p0 + sd i)) p)) :
    RIv W D_ r ho sd p0 ts ts' (i + 1) (zu tm (ho p0 + sd i) ts') (zu re (ho p0 + sd i) R) (zu tc (ho p0 + sd i) T) (zu ow (ho p0 + sd i) O) hc' := by
  have a := ge_k hG h0 h1 i0 i1
  have b := RIv_at hG h0 h1 i0 i1 I
  refine ⟨BIm_up I.1 a.2.2.2.1 a.2.2.2.2.1 (by rw [a.2.2.2.2.2.1, a.2.2.2.2.2.2.1]; exact hp) (fun p p0' p1 => by rw [a.2.2.2.2.2.1, a.2.2.2.2.2.2.1, b.1]; exact hh p p0' p1), fun j j0 j1 => ?_, fun P q0 q1 q2 => ?_⟩
  · by_cases e : ho p0 + sd j = ho p0 + sd i
    · rw [e, zu_s]
    · rw [zu_n _ _ e]
      exact I.2.1 j j0 (by
        by_cases e2 : j = i
        · exact absurd (by rw [e2]) e
        · omega)
  · rw [zu_n _ _ (q2 i i0 (by omega))]
    exact I.2.2 P q0 q1 (fun j j0 j1 => q2 j j0 (by omega))
theorem RIv_lt {W D_ r sz : Int} {co ro ho ac al sd lf sq : Int → Int} (hG : GE W D_ r sz co ro ho ac al sd lf sq) {p0 i v : Int} {ts : Int → Int} {tm : Int → Int → Int} {re tc ow hc : Int → Int} (h0 : 0 ≤ p0) (h1 : p0 < W * D_) (i0 : 0 ≤ i) (i1 : i < sz) (hv : ts p0 < v) (I : RIv W D_ r ho sd p0 ts (zu ts p0 v) i tm re tc ow hc)
    (hl : v + lf i < re (ho p0 + sd i)) : RIv W D_ r ho sd p0 ts (zu ts p0 v) (i + 1) (zu tm (ho p0 + sd i) (zu ts p0 v)) re tc ow hc := by
  have a := (ge_k hG h0 h1 i0 i1).2.2.2.2.2.2.2.2.2
  have b := RIv_at hG h0 h1 i0 i1 I
  have c := PLv_zu (p := p0) (v := v) b.2 (by rw [a ts]; omega) (by rw [a (zu ts p0 v), zu_s]; omega)
  have d := RIv_up hG h0 h1 i0 i1 I (PLv_c b.2 c.1 c.2) (hc' := hc) (fun p q0 q1 => by rw [c.1 p q0 q1]; omega)
  rw [zu_id rfl, zu_id rfl, zu_id rfl] at d
  exact d
theorem RIv_eq {W D_ r sz : Int} {co ro ho ac al sd lf sq : Int → Int} (hG : GE W D_ r sz co ro ho ac al sd lf sq) {p0 i v : Int} {ts : Int → Int} {tm : Int → Int → Int} {re tc ow hc : Int → Int} (h0 : 0 ≤ p0) (h1 : p0 < W * D_) (i0 : 0 ≤ i) (i1 : i < sz) (hv : ts p0 < v) (I : RIv W D_ r ho sd p0 ts (zu ts p0 v) i tm re tc ow hc)
    (hl : v + lf i = re (ho p0 + sd i)) : RIv W D_ r ho sd p0 ts (zu ts p0 v) (i + 1) (zu tm (ho p0 + sd i) (zu ts p0 v)) re (zu tc (ho p0 + sd i) (tc (ho p0 + sd i) + 1)) (zu ow (ho p0 + sd i) p0) (zu hc p0 (hc p0 + 1)) := by
  have a := (ge_k hG h0 h1 i0 i1).2.2.2.2.2.2.2.2.2
  have b := RIv_at hG h0 h1 i0 i1 I
  have c := PLv_eq (p := p0) (v := v) b.2 h0 h1 (by rw [a ts]; omega) (by rw [a (zu ts p0 v), zu_s]; omega)
  have d := RIv_up hG h0 h1 i0 i1 I c.1 (hc' := zu hc p0 (hc p0 + 1)) (fun p q0 q1 => by
    rw [c.2 p q0 q1]
    by_cases e : p = p0
    · subst e; rw [zu_s]; simp [bi]; omega
    · rw [zu_n _ _ e]; simp [bi, e])
  rw [zu_id rfl] at d
  exact d
theorem RIv_gt {W D_ r sz : Int} {co ro ho ac al sd lf sq : Int → Int} (hG : GE W D_ r sz co ro ho ac al sd lf sq) {p0 i v lev : Int} {ts : Int → Int} {tm : Int → Int → Int} {re tc ow hc hc' : Int → Int} (h0 : 0 ≤ p0) (h1 : p0 < W * D_) (i0 : 0 ≤ i) (i1 : i < sz) (I : RIv W D_ r ho sd p0 ts (zu ts p0 v) i tm re tc ow hc)
    (hlev : lev = v + lf i) (hl : re (ho p0 + sd i) < lev) (hh : ∀ p, 0 ≤ p → p < W * D_ → hc' p = hc p - bi (tch W r (co p0 + ac i) (ro p0 + al i) ts (re (ho p0 + sd i)) p)) :
    RIv W D_ r ho sd p0 ts (zu ts p0 v) (i + 1) (zu tm (ho p0 + sd i) (zu ts p0 v)) (zu re (ho p0 + sd i) lev) (zu tc (ho p0 + sd i) 1) (zu ow (ho p0 + sd i) p0) (zu hc' p0 (hc' p0 + 1)) := by
  have a := (ge_k hG h0 h1 i0 i1).2.2.2.2.2.2.2.2.2
  have b := RIv_at hG h0 h1 i0 i1 I
  have e0 : rch W r (co p0 + ac i) (ro p0 + al i) (zu ts p0 v) p0 = lev := by rw [a (zu ts p0 v), zu_s, hlev]
  have c := PLv_gt (p := p0) (v := v) b.2 h0 h1 (by rw [e0]; exact hl)
  rw [e0] at c
  exact RIv_up hG h0 h1 i0 i1 I c.1 (hc' := zu hc' p0 (hc' p0 + 1)) (fun p q0 q1 => by
    rw [c.2 p q0 q1]
    by_cases e : p = p0
    · subst e; rw [zu_s, hh p q0 q1]; simp [bi]; omega
    · rw [zu_n _ _ e, hh p q0 q1]; simp [bi, e])
theorem RIv_0 {W D_ r p0 : Int} {ho sd ts ts' re tc ow hc : Int → Int} (h : BI W D_ r ts re tc ow hc) : RIv W D_ r ho sd p0 ts ts' 0 (fun _ => ts) re tc ow hc :=
  ⟨h, fun j j0 j1 => by omega, fun P _ _ _ => rfl⟩
theorem RIv_end {W D_ r sz : Int} {co ro ho ac al sd lf sq : Int → Int} (hG : GE W D_ r sz co ro ho ac al sd lf sq) {p0 i v : Int} {ts : Int → Int} {tm : Int → Int → Int} {re tc ow hc : Int → Int} (h0 : 0 ≤ p0) (h1 : p0 < W * D_) (i0 : 0 ≤ i) (hv : ts p0 < v) (hv2 : v ≤ 262144000) (I : RIv W D_ r ho sd p0 ts (zu ts p0 v) i tm re tc ow hc)
    (hend : sz ≤ i ∨ (i < sz ∧ v + lf i < r * 1048576)) : BI W D_ r (zu ts p0 v) re tc ow hc := by
  refine BIm_c I.1 (fun P q0 q1 => ?_)
  by_cases c : ∃ j, 0 ≤ j ∧ j < i ∧ P = ho p0 + sd j
  · obtain ⟨j, j0, j1, rfl⟩ := c
    exact Or.inl (I.2.1 j j0 j1).symm
  · right
    have e : tm P = ts := I.2.2 P q0 q1 (fun j j0 j1 q => c ⟨j, j0, j1, q⟩)
    have b := I.1.1 P q0 q1
    rw [e] at b ⊢
    have hr := hG.1
    have hlow : v + lift r (p0 % W - plx W r P) (p0 / W - ply W r P) < re P := by
      have hb := b.1
      rcases ge_ex hG h0 h1 q0 q1 with q | ⟨k, k0, k1, k2, k3⟩
      · rw [q]; omega
      · rw [k3]
        rcases hend with z | ⟨z1, z2⟩
        · exact absurd ⟨k, k0, by omega, k2⟩ c
        · by_cases ki : k < i
          · exact absurd ⟨k, k0, ki, k2⟩ c
          · have := hG.2.2.2.2.2.2.1 i k i0 (by omega) k1
            omega
    exact PLv_zu b (by rw [rch]; omega) (by rw [rch_zs]; exact hlow)
/-! a tip sinks -/
def LIv (W D_ r : Int) (ho sd : Int → Int) (p0 : Int) (to ts : Int → Int) (i touches : Int) (vis : Int → Bool) (re tc ow hc : Int → Int) : Prop :=
  BIm W D_ r (fun P => if vis P = true then ts else to) re tc ow hc ∧ touches = cz (fun P => !vis P && tch W r (plx W r P) (ply W r P) to (re P) p0) ((W + 2 * r) * (D_ + 2 * r)) ∧
  (∀ P, vis P = true → ∃ j, 0 ≤ j ∧ j < i ∧ P = ho p0 + sd j) ∧ ∀ j, 0 ≤ j → j < i → vis (ho p0 + sd j) = true ∨ tch W r (plx W r (ho p0 + sd j)) (ply W r (ho p0 + sd j)) to (re (ho p0 + sd j)) p0 = false
theorem LIv_at {W D_ r sz : Int} {co ro ho ac al sd lf sq : Int → Int} (hG : GE W D_ r sz co ro ho ac al sd lf sq) {p0 i touches : Int} {to ts : Int → Int} {vis : Int → Bool} {re tc ow hc : Int → Int} (h0 : 0 ≤ p0) (h1 : p0 < W * D_) (i0 : 0 ≤ i) (i1 : i < sz) (I : LIv W D_ r ho sd p0 to ts i touches vis re tc ow hc) :
    vis (ho p0 + sd i) = false ∧ PLv W (W * D_) r (co p0 + ac i) (ro p0 + al i) to (re (ho p0 + sd i)) (tc (ho p0 + sd i)) (ow (ho p0 + sd i)) := by
  have a := ge_k hG h0 h1 i0 i1
  have e : vis (ho p0 + sd i) = false := by
    cases hv : vis (ho p0 + sd i) with
    | false => rfl
    | true =>
      obtain ⟨j, j0, j1, j2⟩ := I.2.2.1 _ hv
      have := ge_inj hG h0 h1 i0 i1 j0 (by omega) j2
      omega
  have b := I.1.1 _ a.2.2.2.1 a.2.2.2.2.1
  simp only [e, Bool.false_eq_true, if_false] at b
  rw [a.2.2.2.2.2.1, a.2.2.2.2.2.2.1] at b
  exact ⟨e, b⟩
theorem LIv_no {W D_ r sz : Int} {co ro ho ac al sd lf sq : Int → Int} (hG : GE W D_ r sz co ro ho ac al sd lf sq) {p0 i touches : Int} {to ts : Int → Int} {vis : Int → Bool} {re tc ow hc : Int → Int} (h0 : 0 ≤ p0) (h1 : p0 < W * D_) (i0 : 0 ≤ i) (i1 : i < sz) (I : LIv W D_ r ho sd p0 to ts i touches vis re tc ow hc)
    (hl : ¬ to p0 + lf i = re (ho p0 + sd i)) : LIv W D_ r ho sd p0 to ts (i + 1) touches vis re tc ow hc := by
  have a := ge_k hG h0 h1 i0 i1
  refine ⟨I.1, I.2.1, fun P hP => ?_, fun j j0 j1 => ?_⟩
  · obtain ⟨j, j0, j1, j2⟩ := I.2.2.1 P hP
    exact ⟨j, j0, by omega, j2⟩
  · by_cases e : j = i
    · subst e
      right
      rw [a.2.2.2.2.2.1, a.2.2.2.2.2.2.1, tch_f, a.2.2.2.2.2.2.2.2.2 to]
      exact hl
    · exact I.2.2.2 j j0 (by omega)
theorem LIv_up {W D_ r sz : Int} {co ro ho ac al sd lf sq : Int → Int} (hG : GE W D_ r sz co ro ho ac al sd lf sq) {p0 i touches R T O : Int} {to ts : Int → Int} {vis : Int → Bool} {re tc ow hc hc' : Int → Int} (h0 : 0 ≤ p0) (h1 : p0 < W * D_) (i0 : 0 ≤ i) (i1 : i < sz) (I : LIv W D_ r ho sd p0 to ts i touches vis re tc ow hc)
    (hl : to p0 + lf i = re (ho p0 + sd i)) (hp : PLv W (W * D_) r (co p0 + ac i) (ro p0 + al i) ts R T O)
    (hh : ∀ p, 0 ≤ p → p < W * D_ → hc' p = hc p + bi (tch W r (co p0 + ac i) (ro p0 + al i) ts R p) - bi (tch W r (co p0 + ac i) (ro p0 + al i) to (re (ho p0 + sd i)) p)) :
    LIv W D_ r ho sd p0 to ts (i + 1) (touches - 1) (zu vis (ho p0 + sd i) true) (zu re (ho p0 + sd i) R) (zu tc (ho p0 + sd i) T) (zu ow (ho p0 + sd i) O) hc' := by
  have a := ge_k hG h0 h1 i0 i1
  have b := LIv_at hG h0 h1 i0 i1 I
  have et : tch W r (co p0 + ac i) (ro p0 + al i) to (re (ho p0 + sd i)) p0 = true := by rw [tch_t, a.2.2.2.2.2.2.2.2.2 to]; exact hl
  refine ⟨?_, ?_, fun P hP => ?_, fun j j0 j1 => ?_⟩
  · have c := BIm_up I.1 a.2.2.2.1 a.2.2.2.2.1 (ts' := ts) (R := R) (T := T) (O := O) (hc' := hc') (by rw [a.2.2.2.2.2.1, a.2.2.2.2.2.2.1]; exact hp) (fun p q0 q1 => by
      rw [a.2.2.2.2.2.1, a.2.2.2.2.2.2.1]
      simp only [b.1, Bool.false_eq_true, if_false]
      exact hh p q0 q1)
    have e : zu (fun P => if vis P = true then ts else to) (ho p0 + sd i) ts = fun P => if zu vis (ho p0 + sd i) true P = true then ts else to := by
      funext P
      by_cases q : P = ho p0 + sd i
      · rw [q, zu_s, zu_s]; simp
      · rw [zu_n _ _ q, zu_n _ _ q]
    rw [e] at c
    exact c
  · have c := cz_up (P := fun P => !vis P && tch W r (plx W r P) (ply W r P) to (re P) p0) (Q := fun P => !(zu vis (ho p0 + sd i) true P) && tch W r (plx W r P) (ply W r P) to (zu re (ho p0 + sd i) R P) p0) a.2.2.2.1 a.2.2.2.2.1 (fun P q0 q1 q2 => by simp only [zu_n _ _ q2])
    simp only [zu_s, b.1, a.2.2.2.2.2.1, a.2.2.2.2.2.2.1, et] at c
    rw [c, I.2.1]
    simp [bi]
  · by_cases q : P = ho p0 + sd i
    · exact ⟨i, i0, by omega, q⟩
    · rw [zu_n _ _ q] at hP
      obtain ⟨j, j0, j1, j2⟩ := I.2.2.1 P hP
      exact ⟨j, j0, by omega, j2⟩
  · by_cases q : ho p0 + sd j = ho p0 + sd i
    · left; rw [q, zu_s]
    · rw [zu_n _ _ q, zu_n _ _ q]
      exact I.2.2.2 j j0 (by
        by_cases e2 : j = i
        · exact absurd (by rw [e2]) q
        · omega)
theorem LIv_0 {W D_ r p0 : Int} {ho sd to ts re tc ow hc : Int → Int} (h0 : 0 ≤ p0) (h1 : p0 < W * D_) (h : BI W D_ r to re tc ow hc) : LIv W D_ r ho sd p0 to ts 0 (hc p0) (fun _ => false) re tc ow hc := by
  refine ⟨by simp only [Bool.false_eq_true, if_false]; exact h, ?_, fun P hP => by simp at hP, fun j j0 j1 => by omega⟩
  rw [h.2 p0 h0 h1]
  exact cz_c (fun P _ _ => by simp)
theorem LIv_end {W D_ r sz : Int} {co ro ho ac al sd lf sq : Int → Int} (hG : GE W D_ r sz co ro ho ac al sd lf sq) {p0 i v touches : Int} {to : Int → Int} {vis : Int → Bool} {re tc ow hc : Int → Int} (h0 : 0 ≤ p0) (h1 : p0 < W * D_) (hv : v < to p0) (I : LIv W D_ r ho sd p0 to (zu to p0 v) i touches vis re tc ow hc)
    (hend : sz ≤ i ∨ touches ≤ 0) (hto : to p0 ≤ 262144000) : BI W D_ r (zu to p0 v) re tc ow hc := by
  refine BIm_c I.1 (fun P q0 q1 => ?_)
  cases hP : vis P with
  | true => left; simp [hP]
  | false =>
    right
    have b := I.1.1 P q0 q1
    simp only [hP, Bool.false_eq_true, if_false] at b ⊢
    have hne : rch W r (plx W r P) (ply W r P) to p0 ≠ re P := by
      intro hq
      rcases hend with z | z
      · have hb := b.1
        have hr := hG.1
        rcases ge_ex hG h0 h1 q0 q1 with q | ⟨k, k0, k1, k2, k3⟩
        · rw [rch, q] at hq; omega
        · rcases I.2.2.2 k k0 (by omega) with u | u
          · rw [← k2, hP] at u; cases u
          · rw [← k2] at u
            exact tch_f.mp u hq
      · have c := I.2.1
        have d := cz_lt (P := fun P => !vis P && tch W r (plx W r P) (ply W r P) to (re P) p0) q0 q1 (by simp [hP, tch_t.mpr hq])
        have e := (cz_b (fun P => !vis P && tch W r (plx W r P) (ply W r P) to (re P) p0) q0).1
        omega
    have hle := b.2.2.1 p0 h0 h1
    exact PLv_zu b hne (by rw [rch_zs]; rw [rch] at hle hne; omega)
end
section
/-! ===== Int32 by its bits: bt x i ===== -/
def bt (x : Int32) (i : Nat) : Bool := x.toBitVec.getLsbD i
theorem b_ext {x y : Int32} (h : ∀ i, i < 32 → bt x i = bt y i) : x = y := Int32.toBitVec_inj.mp (BitVec.eq_of_getLsbD_eq (fun i hi => h i hi))
theorem b_or (x y : Int32) (i : Nat) : bt (x ||| y) i = (bt x i || bt y i) := by unfold bt; rw [Int32.toBitVec_or, BitVec.getLsbD_or]
theorem b_and (x y : Int32) (i : Nat) : bt (x &&& y) i = (bt x i && bt y i) := by unfold bt; rw [Int32.toBitVec_and, BitVec.getLsbD_and]
theorem b_xor (x y : Int32) (i : Nat) : bt (x ^^^ y) i = (bt x i ^^ bt y i) := by unfold bt; rw [Int32.toBitVec_xor, BitVec.getLsbD_xor]
theorem b_big {x : Int32} {i : Nat} (h : 32 ≤ i) : bt x i = false := BitVec.getLsbD_of_ge _ _ h
theorem b_255 (i : Nat) : bt 255 i = decide (i < 8) := by
  rcases Nat.lt_or_ge i 32 with h | h
  · exact (by decide +kernel : ∀ i, i < 32 → bt 255 i = decide (i < 8)) i h
  · rw [b_big h, decide_eq_false (by omega)]
theorem b_65535 (i : Nat) : bt 65535 i = decide (i < 16) := by
  rcases Nat.lt_or_ge i 32 with h | h
  · exact (by decide +kernel : ∀ i, i < 32 → bt 65535 i = decide (i < 16)) i h
  · rw [b_big h, decide_eq_false (by omega)]
theorem b_m1 : ∀ i, i < 32 → bt (-1) i = true := by decide +kernel
theorem b_0 (i : Nat) : bt 0 i = false := BitVec.getLsbD_zero
theorem s_l : ∀ n, n < 32 → ((nI n &&& 31).toBitVec.smod 32).toNat = n := by decide +kernel
theorem s_u : ∀ n, n < 32 → (((nI n).toUInt32 &&& Int32.toUInt32 31).toBitVec % 32).toNat = n := by decide +kernel
theorem b_shl (n : Nat) (hn : n < 32) (x : Int32) {i : Nat} (hi : i < 32) : bt (x <<< (nI n &&& 31)) i = (decide (n ≤ i) && bt x (i - n)) := by
  unfold bt
  rw [Int32.toBitVec_shiftLeft]
  show (x.toBitVec <<< ((nI n &&& 31).toBitVec.smod 32).toNat).getLsbD i = _
  rw [s_l n hn, BitVec.getLsbD_shiftLeft]
  rcases Nat.lt_or_ge i n with h | h
  · simp [h, Nat.not_le.mpr h]
  · simp [hi, h, Nat.not_lt.mpr h]
theorem b_ushr (n : Nat) (hn : n < 32) (x : Int32) (i : Nat) : bt ((x.toUInt32 >>> ((nI n).toUInt32 &&& Int32.toUInt32 31)).toInt32) i = bt x (n + i) := by
  show (x.toUInt32 >>> ((nI n).toUInt32 &&& Int32.toUInt32 31)).toBitVec.getLsbD i = x.toUInt32.toBitVec.getLsbD (n + i)
  rw [UInt32.toBitVec_shiftRight]
  show (x.toUInt32.toBitVec >>> (((nI n).toUInt32 &&& Int32.toUInt32 31).toBitVec % 32).toNat).getLsbD i = _
  rw [s_u n hn, BitVec.getLsbD_ushiftRight]
theorem b_sshr (n : Nat) (hn : n < 32) (x : Int32) {i : Nat} (hi : i < 32) : bt (x >>> (nI n &&& 31)) i = if n + i < 32 then bt x (n + i) else bt x 31 := by
  unfold bt
  rw [Int32.toBitVec_shiftRight]
  show (x.toBitVec.sshiftRight ((nI n &&& 31).toBitVec.smod 32).toNat).getLsbD i = _
  rw [s_l n hn, BitVec.getLsbD_sshiftRight, BitVec.msb_eq_getLsbD_last]
  simp [hi]
/-! sets of sets as ints: bit k of s -/
def tb (s k : Int) : Bool := bt (iZ s) k.toNat
theorem tb_and (a b k : Int) : tb (zand a b) k = (tb a k && tb b k) := by rw [tb, zand, iZ_of, b_and]; rfl
theorem tb_or (a b k : Int) : tb (zor a b) k = (tb a k || tb b k) := by rw [tb, zor, iZ_of, b_or]; rfl
theorem tb_not (a : Int) {k : Int} (h : k < 32) : tb (zxor a (-1)) k = !tb a k := by
  have e : bt (iZ (-1)) k.toNat = true := (by decide +kernel : ∀ i, i < 32 → bt (iZ (-1)) i = true) k.toNat (by omega)
  rw [tb, zxor, iZ_of, b_xor, e, tb]
  cases bt (iZ a) k.toNat <;> rfl
theorem tb_0 (k : Int) : tb 0 k = false := by rw [tb, iZ_0, b_0]
theorem tb_nz {s : Int} (h : ir s) (hn : ¬ s = 0) : ∃ k, 0 ≤ k ∧ k < 32 ∧ tb s k = true := by
  by_cases c : ∃ i : Nat, i < 32 ∧ bt (iZ s) i = true
  · obtain ⟨i, h1, h2⟩ := c
    exact ⟨(i : Int), by omega, by omega, by rw [tb, Int.toNat_natCast]; exact h2⟩
  · exfalso
    apply hn
    have e : iZ s = 0 := b_ext (fun i hi => by
      rw [b_0]
      cases hb : bt (iZ s) i with
      | false => rfl
      | true => exact absurd ⟨i, hi, hb⟩ c)
    exact (iZ_eq0 h).mp e
theorem iZ_zshr (a b : Int) : iZ (zshr a b) = iZ a >>> (iZ b &&& 31) := by rw [zshr, iZ_of]
theorem zand_ir (a b : Int) : ir (zand a b) := iZ_ir _
theorem zor_ir (a b : Int) : ir (zor a b) := iZ_ir _
theorem zxor_ir (a b : Int) : ir (zxor a b) := iZ_ir _
theorem zshr_ir (a b : Int) : ir (zshr a b) := iZ_ir _
theorem zshl_ir (a b : Int) : ir (zshl a b) := iZ_ir _
theorem zbit (s : Int) {k : Int} (h0 : 0 ≤ k) (h1 : k < 32) : zand (zshr s k) 1 = bi (tb s k) := by
  have e : iZ (zshr s k) &&& iZ 1 = iZ (bi (tb s k)) := by
    apply b_ext
    intro i hi
    have ek : iZ k = nI k.toNat := by have := iZ_nat k.toNat; rw [Int.toNat_of_nonneg h0] at this; exact this
    rw [b_and, iZ_zshr, ek, b_sshr k.toNat (by omega) (iZ s) hi]
    have e1 : ∀ i, i < 32 → bt (iZ 1) i = decide (i = 0) := by decide +kernel
    have e0 : ∀ i, i < 32 → bt (iZ 0) i = false := by decide +kernel
    rw [e1 i hi]
    by_cases c : i = 0
    · subst c
      have e2 : k.toNat + 0 < 32 := by omega
      rw [if_pos e2, Nat.add_zero]
      show (bt (iZ s) k.toNat && decide (0 = 0)) = bt (iZ (bi (bt (iZ s) k.toNat))) 0
      cases bt (iZ s) k.toNat <;> decide
    · rw [decide_eq_false c, Bool.and_false]
      cases tb s k with
      | false => exact (e0 i hi).symm
      | true => exact ((e1 i hi).trans (decide_eq_false c)).symm
  rw [zand, e]
  have := bi_b (tb s k)
  exact iZ_toInt ⟨by omega, by omega⟩
theorem tb_one {k j : Int} (h0 : 0 ≤ k) (h1 : k < 31) (j0 : 0 ≤ j) (j1 : j < 32) : tb (zshl 1 k) j = decide (j = k) := by
  have ek : iZ k = nI k.toNat := by have := iZ_nat k.toNat; rw [Int.toNat_of_nonneg h0] at this; exact this
  rw [tb, zshl, iZ_of, ek, b_shl k.toNat (by omega) (iZ 1) (by omega)]
  have e1 : ∀ i, i < 32 → bt (iZ 1) i = decide (i = 0) := by decide +kernel
  by_cases c : k.toNat ≤ j.toNat
  · rw [decide_eq_true c, Bool.true_and, e1 _ (by omega)]
    by_cases d : j = k
    · rw [decide_eq_true d, decide_eq_true (by omega)]
    · rw [decide_eq_false d, decide_eq_false (by omega)]
  · rw [decide_eq_false c, Bool.false_and, decide_eq_false (by omega)]
theorem zshr_20 {z : Int} (h : ir z) : zshr z 20 = z / 1048576 := by
  rw [zshr, pk_shr (iZ z) (iZ 20 &&& 31) 20 (by decide), iZ_toInt h, Int.shiftRight_eq_div_pow]
  rfl
end
section
/-! Methods that throw, over TT where nothing is written; the refs of text constants (SPx). -/
section TXT
variable {p : Program} {l : Launch} {e : Env} {R : Room} {s : State} {m : MethodId} {args : Array Value} {below : List Frame} {meth : Method} {c : Code} {cells slots : Nat} {Q : State → Prop}
variable {cc : ByteArray} {nL pc : Nat} {ret : Option FieldType} {Ts : List Cond} {own : String} {D : va_G} {cl : List vw_C} {cI cZ cJ : ClassId} {SL : List zS} {A : Nat → Prop} {ro : Prop} {lv : List (Nat × Value)} {st : List Value} {ws : va_W}
def SPx (SO : String) (SS : List (Nat × String)) (U : State) : Prop := ∀ (k : Nat) (q : Nat × String), SS[k]? = some q → ∃ a, vk_R SO q.1 q.2 a U
theorem SPx.warm {SO : String} {SS : List (Nat × String)} {u U : State} (h : SPx SO SS u) (hW : u.WarmedH U.vm) : SPx SO SS U := fun k q hk => by
  obtain ⟨a, ha⟩ := h k q hk
  exact ⟨a, ha.warm hW⟩
theorem SPx.same {SO : String} {SS : List (Nat × String)} {u U : State} (h : SPx SO SS u) (hv : U.vm = u.vm) : SPx SO SS U := fun k q hk => by
  obtain ⟨a, ha⟩ := h k q hk
  exact ⟨a, ha.same hv⟩
/-- a contract: it throws E, and nothing has changed -/
def CX (l : Launch) (D : va_G) (cl : List vw_C) (cI cZ cJ : ClassId) (SL : List zS) (SO : String) (SS : List (Nat × String)) (y : MethodName) (wm : List Cond) (rm : Room) (av : List Value) (w0 : va_W) (E : String) : Prop := ∀ sz : Nat, tx_Met l y wm rm (fun a U => PW D cl cI cZ cJ SL av w0 sz a U ∧ SPx SO SS U) E
theorem px_blind (D : va_G) (cl : List vw_C) (cI cZ cJ : ClassId) (SL : List zS) (SO : String) (SS : List (Nat × String)) (av : List Value) (w0 : va_W) (sz : Nat) : FrameBlind (fun a U => PW D cl cI cZ cJ SL av w0 sz a U ∧ SPx SO SS U) :=
  fun a U g mk q => ⟨pw_blind D cl cI cZ cJ SL av w0 sz a U g mk q.1, q.2.same rfl⟩
theorem tx_noh (h : c.exceptionTable.isEmpty = true) (pc : Nat) : ∀ x ∈ c.exceptionTable.toList, covers x pc = false := by
  intro x hx
  have e0 : c.exceptionTable = #[] := Array.isEmpty_iff.mp h
  rw [e0] at hx
  cases hx
theorem tt_startX {y : MethodName} {wm wm' : List Cond} {rm : Room} {av : List Value} {w0 : va_W} {E : String} {SO : String} {SS : List (Nat × String)} (hy : plainName y.cls = true) (hw : wm = Cond.code y cc nL ret :: wm') (hsl : (lg_sl av).length ≤ nL)
    (body : ∀ (p : Program) (e : Env) (s : State) (m : MethodId) (args : Array Value) (below : List Frame) (meth : Method) (c : Code), FX p s m args meth c cc nL ret wm y.cls D cl cI cZ cJ SL (va_A w0 s.heap.size) → c.exceptionTable.isEmpty = true → SPx SO SS s → TT p l e rm s m args below meth c D cl (va_A w0 s.heap.size) nL True (tx_MQ below E args s) 0 (lv_args 0 av) [] w0 0 0) : CX l D cl cI cZ cJ SL SO SS y wm rm av w0 E := by
  intro sz
  refine tx_ofW (cc := cc) (maxL := nL) (ret := ret) hy hw ?_
  intro p e s m args below meth c s₁ B hml hv
  obtain ⟨⟨rfl, rfl, hP, hK, hD, hSF⟩, hsp⟩ := hv
  have hown := findClass_of_methodNamed B.named
  have hts : ∀ w ∈ wm, w.before av.toArray s = true := atoms_spec B.pre
  have hl := lv_entry av (n := nL) hsl
  have hex : c.exceptionTable.isEmpty = true := by
    obtain ⟨meth', c', h1, h2, -, -, -, -, h3, -⟩ := Cond.code_spec B.named (hts _ (by rw [hw]; exact List.mem_cons_self))
    have h4 := B.method.symm.trans h1
    cases h4
    have h5 : meth.code = some c := (Stand.of_body B).code
    have h6 := h5.symm.trans h2
    cases h6
    exact h3
  rw [lg_entry_eq]
  exact body p e s m _ below meth c ⟨⟨B.exec, B.bytes, hml, hown, hts⟩, hK, fun q h => Or.inr h, hSF, B.returns, B.notSynchronized⟩ hex hsp s.heap [] _ (fun _ => ⟨rfl, rfl⟩) hP hD.self va_S.rf hl
/-- new; dup; ldc; invokespecial; athrow -/
theorem tt_throw (F : FX p s m args meth c cc nL ret Ts own D cl cI cZ cJ SL A) (hst : l.stackTraces = false) (hex : c.exceptionTable.isEmpty = true) {SS : List (Nat × String)} (hsp : SPx own SS s) {cls text : String} {names : List String} {ik is ic : Nat} (j : Nat) (hj : SS[j]? = some (is, text))
    (hcls : Bundle.fit cls = true) (hnames : ∀ n ∈ names, Bundle.fit n = true) (hw1 : Cond.classLink own ik cls ∈ Ts) (hw2 : Cond.initialized cls ∈ Ts) (hat : ∀ w ∈ Bundle.ownAtoms own ic cls names, w ∈ Ts)
    (d0 : decode cc pc = .ok (.new ik, 3)) (d3 : decode cc (pc + 3) = .ok (.dup, 1)) (d4 : decode cc (pc + 4) = .ok (.ldc is, 2)) (d6 : decode cc (pc + 6) = .ok (.invokespecial ic, 3)) (d9 : decode cc (pc + 9) = .ok (.athrow, 1))
    (hR1 : names.length + 3 < R.frames) (hR2 : (st.map fun v => v.category).sum + (13 * (names.length + 1) + 43) ≤ R.locals) (hR3 : 1 ≤ R.cells) (hR4 : 6 ≤ R.slots) :
    TT p l e R s m args below meth c D cl A nL True (tx_MQ below cls args s) pc lv st ws 0 0 := by
  intro H locs ls hN hP hD hS hl
  obtain ⟨rfl, rfl⟩ := hN trivial
  obtain ⟨sa, hsa⟩ := hsp j _ hj
  exact tx_throw F.1.1 F.1.2.1 hst F.1.2.2.2.1 hcls hnames (F.1.2.2.2.2 _ hw1) (F.1.2.2.2.2 _ hw2) hsa (fun w hw => F.1.2.2.2.2 w (hat w hw)) (hl.1.trans F.1.2.2.1.symm) d0 d3 d4 d6 d9 (tx_noh hex _) hR1 hR2 hR3 hR4 F.2.2.2.2.2
theorem tt_outV (F : FX p s m args meth c cc nL ret Ts own D cl cI cZ cJ SL A) (hex : c.exceptionTable.isEmpty = true) {SO : String} {SS : List (Nat × String)} (hsp : SPx SO SS s) {y : MethodName} {bytes : ByteArray} {maxL n ix : Nat} {rt : Option FieldType} {wm : List Cond} {rm : Room} {As : List Value} {w0 : va_W} {E : String} {st0 : List Value} (wr : va_W) {C : String} {T : u_T} {N ci b : Nat} {fs : List Value} (q0 : Nat) (he : w0[q0]? = some (b, .inr (ci, fs))) (hcl : cl[ci]? = some (C, T, N)) (hM : CX l D cl cI cZ cJ SL SO SS y wm rm (.ref b :: As) w0 E) (cw : CallW R s args own C ix y bytes maxL rt wm rm 1 6 n) (hw : ws = wr ++ w0) (hn : As.length = n) (hst : st0 = As.reverse ++ .ref b :: st) (hW : (st.map fun v => v.category).sum ≤ 8) (hf : 1 ≤ R.cells ∧ 6 ≤ R.slots) (hd : decode cc pc = .ok (.invokevirtual ix, 3)) :
    TT p l e R s m args below meth c D cl A nL True (tx_MQ below E args s) pc lv st0 ws 0 0 := by
  intro H locs ls hN hP hD hS hl
  subst hw
  obtain ⟨rfl, rfl⟩ := hN trivial
  exact tx_out (tx_runV (As := As) (rest := st) F.1 (hM s.heap.size) cw ⟨px_blind D cl cI cZ cJ SL SO SS _ w0 s.heap.size, tj_recv F hP he hcl, fun U hU hW2 => ⟨tj_pre F hP hD hS hU hW2, hsp.warm hW2⟩⟩ rfl hn hl.1 hst (lv_room hW) hd (by simpa using hf)) (tx_noh hex _) F.2.2.2.2.2
theorem tt_outS (F : FX p s m args meth c cc nL ret Ts own D cl cI cZ cJ SL A) (hex : c.exceptionTable.isEmpty = true) {SO : String} {SS : List (Nat × String)} (hsp : SPx SO SS s) {y : MethodName} {bytes : ByteArray} {maxL n ix : Nat} {rt : Option FieldType} {wm : List Cond} {rm : Room} {As : List Value} {w0 : va_W} {E : String} {st0 : List Value} (wr : va_W) (hM : CX l D cl cI cZ cJ SL SO SS y wm rm As w0 E) (cw : (CallB R s args own ix y bytes maxL rt wm rm 1 6 n ∧ (Cond.static y).before args s = true)) (hw : ws = wr ++ w0) (hn : As.length = n) (hst : st0 = As.reverse ++ st) (hW : (st.map fun v => v.category).sum ≤ 8) (hf : 1 ≤ R.cells ∧ 6 ≤ R.slots) (hd : decode cc pc = .ok (.invokestatic ix, 3)) :
    TT p l e R s m args below meth c D cl A nL True (tx_MQ below E args s) pc lv st0 ws 0 0 := by
  intro H locs ls hN hP hD hS hl
  subst hw
  obtain ⟨rfl, rfl⟩ := hN trivial
  exact tx_out (tx_runS (As := As) (rest := st) F.1 (hM s.heap.size) cw ⟨px_blind D cl cI cZ cJ SL SO SS _ w0 s.heap.size, fun U hU hW2 => ⟨tj_pre F hP hD hS hU hW2, hsp.warm hW2⟩⟩ rfl hn hl.1 hst (lv_room hW) hd (by simpa using hf)) (tx_noh hex _) F.2.2.2.2.2
end TXT
end
section
theorem dRB_init_0 : decode cRB_init 0 = .ok (.aload_n 0, 1) := by decide +kernel
theorem dRB_init_1 : decode cRB_init 1 = .ok (.invokespecial 1, 3) := by decide +kernel
theorem dRB_init_4 : decode cRB_init 4 = .ok (.aload_n 0, 1) := by decide +kernel
theorem dRB_init_5 : decode cRB_init 5 = .ok (.iload_n 1, 1) := by decide +kernel
theorem dRB_init_6 : decode cRB_init 6 = .ok (.iconst 1, 1) := by decide +kernel
theorem dRB_init_7 : decode cRB_init 7 = .ok (.bipush 12, 2) := by decide +kernel
theorem dRB_init_9 : decode cRB_init 9 = .ok (.invokestatic 9, 3) := by decide +kernel
theorem dRB_init_12 : decode cRB_init 12 = .ok (.putfield 13, 3) := by decide +kernel
theorem dRB_init_15 : decode cRB_init 15 = .ok (.aload_n 0, 1) := by decide +kernel
theorem dRB_init_16 : decode cRB_init 16 = .ok (.iload_n 2, 1) := by decide +kernel
theorem dRB_init_17 : decode cRB_init 17 = .ok (.iconst 1, 1) := by decide +kernel
theorem dRB_init_18 : decode cRB_init 18 = .ok (.bipush 12, 2) := by decide +kernel
theorem dRB_init_20 : decode cRB_init 20 = .ok (.invokestatic 9, 3) := by decide +kernel
theorem dRB_init_23 : decode cRB_init 23 = .ok (.putfield 17, 3) := by decide +kernel
theorem dRB_init_26 : decode cRB_init 26 = .ok (.aload_n 0, 1) := by decide +kernel
theorem dRB_init_27 : decode cRB_init 27 = .ok (.iload_n 3, 1) := by decide +kernel
theorem dRB_init_28 : decode cRB_init 28 = .ok (.iconst 1, 1) := by decide +kernel
theorem dRB_init_29 : decode cRB_init 29 = .ok (.bipush 10, 2) := by decide +kernel
theorem dRB_init_31 : decode cRB_init 31 = .ok (.invokestatic 9, 3) := by decide +kernel
theorem dRB_init_34 : decode cRB_init 34 = .ok (.putfield 20, 3) := by decide +kernel
theorem dRB_init_37 : decode cRB_init 37 = .ok (.aload_n 0, 1) := by decide +kernel
theorem dRB_init_38 : decode cRB_init 38 = .ok (.new 23, 3) := by decide +kernel
theorem dRB_init_41 : decode cRB_init 41 = .ok (.dup, 1) := by decide +kernel
theorem dRB_init_42 : decode cRB_init 42 = .ok (.aload_n 0, 1) := by decide +kernel
theorem dRB_init_43 : decode cRB_init 43 = .ok (.getfield 13, 3) := by decide +kernel
theorem dRB_init_46 : decode cRB_init 46 = .ok (.aload_n 0, 1) := by decide +kernel
theorem dRB_init_47 : decode cRB_init 47 = .ok (.getfield 17, 3) := by decide +kernel
theorem dRB_init_50 : decode cRB_init 50 = .ok (.invokespecial 25, 3) := by decide +kernel
theorem dRB_init_53 : decode cRB_init 53 = .ok (.putfield 28, 3) := by decide +kernel
theorem dRB_init_56 : decode cRB_init 56 = .ok (.aload_n 0, 1) := by decide +kernel
theorem dRB_init_57 : decode cRB_init 57 = .ok (.new 32, 3) := by decide +kernel
theorem dRB_init_60 : decode cRB_init 60 = .ok (.dup, 1) := by decide +kernel
theorem dRB_init_61 : decode cRB_init 61 = .ok (.aload_n 0, 1) := by decide +kernel
theorem dRB_init_62 : decode cRB_init 62 = .ok (.getfield 28, 3) := by decide +kernel
theorem dRB_init_65 : decode cRB_init 65 = .ok (.aload_n 0, 1) := by decide +kernel
theorem dRB_init_66 : decode cRB_init 66 = .ok (.getfield 20, 3) := by decide +kernel
theorem dRB_init_69 : decode cRB_init 69 = .ok (.invokespecial 34, 3) := by decide +kernel
theorem dRB_init_72 : decode cRB_init 72 = .ok (.putfield 37, 3) := by decide +kernel
theorem dRB_init_75 : decode cRB_init 75 = .ok (.aload_n 0, 1) := by decide +kernel
theorem dRB_init_76 : decode cRB_init 76 = .ok (.new 41, 3) := by decide +kernel
theorem dRB_init_79 : decode cRB_init 79 = .ok (.dup, 1) := by decide +kernel
theorem dRB_init_80 : decode cRB_init 80 = .ok (.aload_n 0, 1) := by decide +kernel
theorem dRB_init_81 : decode cRB_init 81 = .ok (.getfield 28, 3) := by decide +kernel
theorem dRB_init_84 : decode cRB_init 84 = .ok (.aload_n 0, 1) := by decide +kernel
theorem dRB_init_85 : decode cRB_init 85 = .ok (.getfield 37, 3) := by decide +kernel
theorem dRB_init_88 : decode cRB_init 88 = .ok (.invokespecial 43, 3) := by decide +kernel
theorem dRB_init_91 : decode cRB_init 91 = .ok (.putfield 46, 3) := by decide +kernel
theorem dRB_init_94 : decode cRB_init 94 = .ok (.aload_n 0, 1) := by decide +kernel
theorem dRB_init_95 : decode cRB_init 95 = .ok (.aload_n 0, 1) := by decide +kernel
theorem dRB_init_96 : decode cRB_init 96 = .ok (.getfield 28, 3) := by decide +kernel
theorem dRB_init_99 : decode cRB_init 99 = .ok (.getfield 50, 3) := by decide +kernel
theorem dRB_init_102 : decode cRB_init 102 = .ok (.newarray .boolean, 2) := by decide +kernel
theorem dRB_init_104 : decode cRB_init 104 = .ok (.putfield 53, 3) := by decide +kernel
theorem dRB_init_107 : decode cRB_init 107 = .ok (.return_, 1) := by decide +kernel
theorem dRB_height_0 : decode cRB_height 0 = .ok (.aload_n 0, 1) := by decide +kernel
theorem dRB_height_1 : decode cRB_height 1 = .ok (.iload_n 1, 1) := by decide +kernel
theorem dRB_height_2 : decode cRB_height 2 = .ok (.iload_n 2, 1) := by decide +kernel
theorem dRB_height_3 : decode cRB_height 3 = .ok (.invokevirtual 57, 3) := by decide +kernel
theorem dRB_height_6 : decode cRB_height 6 = .ok (.istore 4, 2) := by decide +kernel
theorem dRB_height_8 : decode cRB_height 8 = .ok (.iload_n 3, 1) := by decide +kernel
theorem dRB_height_9 : decode cRB_height 9 = .ok (.iconst 0, 1) := by decide +kernel
theorem dRB_height_10 : decode cRB_height 10 = .ok (.sipush 200, 3) := by decide +kernel
theorem dRB_height_13 : decode cRB_height 13 = .ok (.invokestatic 61, 3) := by decide +kernel
theorem dRB_height_16 : decode cRB_height 16 = .ok (.aload_n 0, 1) := by decide +kernel
theorem dRB_height_17 : decode cRB_height 17 = .ok (.getfield 28, 3) := by decide +kernel
theorem dRB_height_20 : decode cRB_height 20 = .ok (.getfield 65, 3) := by decide +kernel
theorem dRB_height_23 : decode cRB_height 23 = .ok (.iload 4, 2) := by decide +kernel
theorem dRB_height_25 : decode cRB_height 25 = .ok (.iaload, 1) := by decide +kernel
theorem dRB_height_26 : decode cRB_height 26 = .ok (.istore 5, 2) := by decide +kernel
theorem dRB_height_28 : decode cRB_height 28 = .ok (.aload_n 0, 1) := by decide +kernel
theorem dRB_height_29 : decode cRB_height 29 = .ok (.getfield 28, 3) := by decide +kernel
theorem dRB_height_32 : decode cRB_height 32 = .ok (.getfield 65, 3) := by decide +kernel
theorem dRB_height_35 : decode cRB_height 35 = .ok (.iload 4, 2) := by decide +kernel
theorem dRB_height_37 : decode cRB_height 37 = .ok (.iload_n 3, 1) := by decide +kernel
theorem dRB_height_38 : decode cRB_height 38 = .ok (.iastore, 1) := by decide +kernel
theorem dRB_height_39 : decode cRB_height 39 = .ok (.aload_n 0, 1) := by decide +kernel
theorem dRB_height_40 : decode cRB_height 40 = .ok (.getfield 37, 3) := by decide +kernel
theorem dRB_height_43 : decode cRB_height 43 = .ok (.iload 4, 2) := by decide +kernel
theorem dRB_height_45 : decode cRB_height 45 = .ok (.aload_n 0, 1) := by decide +kernel
theorem dRB_height_46 : decode cRB_height 46 = .ok (.getfield 28, 3) := by decide +kernel
theorem dRB_height_49 : decode cRB_height 49 = .ok (.iload 4, 2) := by decide +kernel
theorem dRB_height_51 : decode cRB_height 51 = .ok (.aload_n 0, 1) := by decide +kernel
theorem dRB_height_52 : decode cRB_height 52 = .ok (.getfield 28, 3) := by decide +kernel
theorem dRB_height_55 : decode cRB_height 55 = .ok (.getfield 69, 3) := by decide +kernel
theorem dRB_height_58 : decode cRB_height 58 = .ok (.iload 4, 2) := by decide +kernel
theorem dRB_height_60 : decode cRB_height 60 = .ok (.iaload, 1) := by decide +kernel
theorem dRB_height_61 : decode cRB_height 61 = .ok (.invokevirtual 72, 3) := by decide +kernel
theorem dRB_height_64 : decode cRB_height 64 = .ok (.invokevirtual 75, 3) := by decide +kernel
theorem dRB_height_67 : decode cRB_height 67 = .ok (.iload 5, 2) := by decide +kernel
theorem dRB_height_69 : decode cRB_height 69 = .ok (.ireturn, 1) := by decide +kernel
theorem dRB_rod_0 : decode cRB_rod 0 = .ok (.aload_n 0, 1) := by decide +kernel
theorem dRB_rod_1 : decode cRB_rod 1 = .ok (.iload_n 1, 1) := by decide +kernel
theorem dRB_rod_2 : decode cRB_rod 2 = .ok (.iload_n 2, 1) := by decide +kernel
theorem dRB_rod_3 : decode cRB_rod 3 = .ok (.invokevirtual 57, 3) := by decide +kernel
theorem dRB_rod_6 : decode cRB_rod 6 = .ok (.istore 4, 2) := by decide +kernel
theorem dRB_rod_8 : decode cRB_rod 8 = .ok (.iload_n 3, 1) := by decide +kernel
theorem dRB_rod_9 : decode cRB_rod 9 = .ok (.iconst 0, 1) := by decide +kernel
theorem dRB_rod_10 : decode cRB_rod 10 = .ok (.bipush 50, 2) := by decide +kernel
theorem dRB_rod_12 : decode cRB_rod 12 = .ok (.invokestatic 61, 3) := by decide +kernel
theorem dRB_rod_15 : decode cRB_rod 15 = .ok (.aload_n 0, 1) := by decide +kernel
theorem dRB_rod_16 : decode cRB_rod 16 = .ok (.getfield 28, 3) := by decide +kernel
theorem dRB_rod_19 : decode cRB_rod 19 = .ok (.getfield 69, 3) := by decide +kernel
theorem dRB_rod_22 : decode cRB_rod 22 = .ok (.iload 4, 2) := by decide +kernel
theorem dRB_rod_24 : decode cRB_rod 24 = .ok (.iaload, 1) := by decide +kernel
theorem dRB_rod_25 : decode cRB_rod 25 = .ok (.istore 5, 2) := by decide +kernel
theorem dRB_rod_27 : decode cRB_rod 27 = .ok (.aload_n 0, 1) := by decide +kernel
theorem dRB_rod_28 : decode cRB_rod 28 = .ok (.iload 4, 2) := by decide +kernel
theorem dRB_rod_30 : decode cRB_rod 30 = .ok (.iload_n 3, 1) := by decide +kernel
theorem dRB_rod_31 : decode cRB_rod 31 = .ok (.invokevirtual 78, 3) := by decide +kernel
theorem dRB_rod_34 : decode cRB_rod 34 = .ok (.iload 5, 2) := by decide +kernel
theorem dRB_rod_36 : decode cRB_rod 36 = .ok (.ireturn, 1) := by decide +kernel
theorem dRB_rest_0 : decode cRB_rest 0 = .ok (.aload_n 0, 1) := by decide +kernel
theorem dRB_rest_1 : decode cRB_rest 1 = .ok (.iload_n 1, 1) := by decide +kernel
theorem dRB_rest_2 : decode cRB_rest 2 = .ok (.iload_n 2, 1) := by decide +kernel
theorem dRB_rest_3 : decode cRB_rest 3 = .ok (.invokevirtual 81, 3) := by decide +kernel
theorem dRB_rest_6 : decode cRB_rest 6 = .ok (.aload_n 0, 1) := by decide +kernel
theorem dRB_rest_7 : decode cRB_rest 7 = .ok (.getfield 37, 3) := by decide +kernel
theorem dRB_rest_10 : decode cRB_rest 10 = .ok (.iload_n 1, 1) := by decide +kernel
theorem dRB_rest_11 : decode cRB_rest 11 = .ok (.iload_n 2, 1) := by decide +kernel
theorem dRB_rest_12 : decode cRB_rest 12 = .ok (.invokevirtual 84, 3) := by decide +kernel
theorem dRB_rest_15 : decode cRB_rest 15 = .ok (.istore 4, 2) := by decide +kernel
theorem dRB_rest_17 : decode cRB_rest 17 = .ok (.iload_n 3, 1) := by decide +kernel
theorem dRB_rest_18 : decode cRB_rest 18 = .ok (.tableswitch 78 0 3 #[30, 36, 50, 60], 30) := by decide +kernel
theorem dRB_rest_48 : decode cRB_rest 48 = .ok (.iload 4, 2) := by decide +kernel
theorem dRB_rest_50 : decode cRB_rest 50 = .ok (.invokestatic 87, 3) := by decide +kernel
theorem dRB_rest_53 : decode cRB_rest 53 = .ok (.ireturn, 1) := by decide +kernel
theorem dRB_rest_54 : decode cRB_rest 54 = .ok (.iload 4, 2) := by decide +kernel
theorem dRB_rest_56 : decode cRB_rest 56 = .ok (.invokestatic 93, 3) := by decide +kernel
theorem dRB_rest_59 : decode cRB_rest 59 = .ok (.ifCond .eq 7, 3) := by decide +kernel
theorem dRB_rest_62 : decode cRB_rest 62 = .ok (.iconst 1, 1) := by decide +kernel
theorem dRB_rest_63 : decode cRB_rest 63 = .ok (.goto 4, 3) := by decide +kernel
theorem dRB_rest_66 : decode cRB_rest 66 = .ok (.iconst 0, 1) := by decide +kernel
theorem dRB_rest_67 : decode cRB_rest 67 = .ok (.ireturn, 1) := by decide +kernel
theorem dRB_rest_68 : decode cRB_rest 68 = .ok (.aload_n 0, 1) := by decide +kernel
theorem dRB_rest_69 : decode cRB_rest 69 = .ok (.getfield 37, 3) := by decide +kernel
theorem dRB_rest_72 : decode cRB_rest 72 = .ok (.iload_n 1, 1) := by decide +kernel
theorem dRB_rest_73 : decode cRB_rest 73 = .ok (.iload_n 2, 1) := by decide +kernel
theorem dRB_rest_74 : decode cRB_rest 74 = .ok (.invokevirtual 97, 3) := by decide +kernel
theorem dRB_rest_77 : decode cRB_rest 77 = .ok (.ireturn, 1) := by decide +kernel
theorem dRB_rest_78 : decode cRB_rest 78 = .ok (.iload 4, 2) := by decide +kernel
theorem dRB_rest_80 : decode cRB_rest 80 = .ok (.aload_n 0, 1) := by decide +kernel
theorem dRB_rest_81 : decode cRB_rest 81 = .ok (.getfield 37, 3) := by decide +kernel
theorem dRB_rest_84 : decode cRB_rest 84 = .ok (.getfield 100, 3) := by decide +kernel
theorem dRB_rest_87 : decode cRB_rest 87 = .ok (.if_icmp .ne 7, 3) := by decide +kernel
theorem dRB_rest_90 : decode cRB_rest 90 = .ok (.iconst 1, 1) := by decide +kernel
theorem dRB_rest_91 : decode cRB_rest 91 = .ok (.goto 4, 3) := by decide +kernel
theorem dRB_rest_94 : decode cRB_rest 94 = .ok (.iconst 0, 1) := by decide +kernel
theorem dRB_rest_95 : decode cRB_rest 95 = .ok (.ireturn, 1) := by decide +kernel
theorem dRB_rest_96 : decode cRB_rest 96 = .ok (.new 103, 3) := by decide +kernel
theorem dRB_rest_99 : decode cRB_rest 99 = .ok (.dup, 1) := by decide +kernel
theorem dRB_rest_100 : decode cRB_rest 100 = .ok (.ldc 105, 2) := by decide +kernel
theorem dRB_rest_102 : decode cRB_rest 102 = .ok (.invokespecial 107, 3) := by decide +kernel
theorem dRB_rest_105 : decode cRB_rest 105 = .ok (.athrow, 1) := by decide +kernel
theorem dRB_touched_0 : decode cRB_touched 0 = .ok (.aload_n 0, 1) := by decide +kernel
theorem dRB_touched_1 : decode cRB_touched 1 = .ok (.iload_n 1, 1) := by decide +kernel
theorem dRB_touched_2 : decode cRB_touched 2 = .ok (.iload_n 2, 1) := by decide +kernel
theorem dRB_touched_3 : decode cRB_touched 3 = .ok (.invokevirtual 81, 3) := by decide +kernel
theorem dRB_touched_6 : decode cRB_touched 6 = .ok (.iload_n 3, 1) := by decide +kernel
theorem dRB_touched_7 : decode cRB_touched 7 = .ok (.invokestatic 110, 3) := by decide +kernel
theorem dRB_touched_10 : decode cRB_touched 10 = .ok (.aload_n 0, 1) := by decide +kernel
theorem dRB_touched_11 : decode cRB_touched 11 = .ok (.getfield 37, 3) := by decide +kernel
theorem dRB_touched_14 : decode cRB_touched 14 = .ok (.iload_n 1, 1) := by decide +kernel
theorem dRB_touched_15 : decode cRB_touched 15 = .ok (.iload_n 2, 1) := by decide +kernel
theorem dRB_touched_16 : decode cRB_touched 16 = .ok (.invokevirtual 114, 3) := by decide +kernel
theorem dRB_touched_19 : decode cRB_touched 19 = .ok (.iload_n 3, 1) := by decide +kernel
theorem dRB_touched_20 : decode cRB_touched 20 = .ok (.aload_n 0, 1) := by decide +kernel
theorem dRB_touched_21 : decode cRB_touched 21 = .ok (.getfield 37, 3) := by decide +kernel
theorem dRB_touched_24 : decode cRB_touched 24 = .ok (.getfield 117, 3) := by decide +kernel
theorem dRB_touched_27 : decode cRB_touched 27 = .ok (.if_icmp .ge 19, 3) := by decide +kernel
theorem dRB_touched_30 : decode cRB_touched 30 = .ok (.aload_n 0, 1) := by decide +kernel
theorem dRB_touched_31 : decode cRB_touched 31 = .ok (.aload_n 0, 1) := by decide +kernel
theorem dRB_touched_32 : decode cRB_touched 32 = .ok (.getfield 37, 3) := by decide +kernel
theorem dRB_touched_35 : decode cRB_touched 35 = .ok (.getfield 120, 3) := by decide +kernel
theorem dRB_touched_38 : decode cRB_touched 38 = .ok (.iload_n 3, 1) := by decide +kernel
theorem dRB_touched_39 : decode cRB_touched 39 = .ok (.iaload, 1) := by decide +kernel
theorem dRB_touched_40 : decode cRB_touched 40 = .ok (.invokevirtual 123, 3) := by decide +kernel
theorem dRB_touched_43 : decode cRB_touched 43 = .ok (.goto 4, 3) := by decide +kernel
theorem dRB_touched_46 : decode cRB_touched 46 = .ok (.iconst (-1), 1) := by decide +kernel
theorem dRB_touched_47 : decode cRB_touched 47 = .ok (.ireturn, 1) := by decide +kernel
theorem dRB_higher_0 : decode cRB_higher 0 = .ok (.aload_n 0, 1) := by decide +kernel
theorem dRB_higher_1 : decode cRB_higher 1 = .ok (.iload_n 1, 1) := by decide +kernel
theorem dRB_higher_2 : decode cRB_higher 2 = .ok (.iload_n 2, 1) := by decide +kernel
theorem dRB_higher_3 : decode cRB_higher 3 = .ok (.invokevirtual 81, 3) := by decide +kernel
theorem dRB_higher_6 : decode cRB_higher 6 = .ok (.aload_n 0, 1) := by decide +kernel
theorem dRB_higher_7 : decode cRB_higher 7 = .ok (.iload_n 3, 1) := by decide +kernel
theorem dRB_higher_8 : decode cRB_higher 8 = .ok (.iload 4, 2) := by decide +kernel
theorem dRB_higher_10 : decode cRB_higher 10 = .ok (.invokevirtual 81, 3) := by decide +kernel
theorem dRB_higher_13 : decode cRB_higher 13 = .ok (.aload_n 0, 1) := by decide +kernel
theorem dRB_higher_14 : decode cRB_higher 14 = .ok (.getfield 37, 3) := by decide +kernel
theorem dRB_higher_17 : decode cRB_higher 17 = .ok (.iload_n 1, 1) := by decide +kernel
theorem dRB_higher_18 : decode cRB_higher 18 = .ok (.iload_n 2, 1) := by decide +kernel
theorem dRB_higher_19 : decode cRB_higher 19 = .ok (.invokevirtual 84, 3) := by decide +kernel
theorem dRB_higher_22 : decode cRB_higher 22 = .ok (.aload_n 0, 1) := by decide +kernel
theorem dRB_higher_23 : decode cRB_higher 23 = .ok (.getfield 37, 3) := by decide +kernel
theorem dRB_higher_26 : decode cRB_higher 26 = .ok (.iload_n 3, 1) := by decide +kernel
theorem dRB_higher_27 : decode cRB_higher 27 = .ok (.iload 4, 2) := by decide +kernel
theorem dRB_higher_29 : decode cRB_higher 29 = .ok (.invokevirtual 84, 3) := by decide +kernel
theorem dRB_higher_32 : decode cRB_higher 32 = .ok (.invokestatic 126, 3) := by decide +kernel
theorem dRB_higher_35 : decode cRB_higher 35 = .ok (.ireturn, 1) := by decide +kernel
theorem dRB_tops_0 : decode cRB_tops 0 = .ok (.aload_n 0, 1) := by decide +kernel
theorem dRB_tops_1 : decode cRB_tops 1 = .ok (.getfield 37, 3) := by decide +kernel
theorem dRB_tops_4 : decode cRB_tops 4 = .ok (.invokevirtual 131, 3) := by decide +kernel
theorem dRB_tops_7 : decode cRB_tops 7 = .ok (.ireturn, 1) := by decide +kernel
theorem dRB_hits_0 : decode cRB_hits 0 = .ok (.aload_n 0, 1) := by decide +kernel
theorem dRB_hits_1 : decode cRB_hits 1 = .ok (.getfield 37, 3) := by decide +kernel
theorem dRB_hits_4 : decode cRB_hits 4 = .ok (.getfield 135, 3) := by decide +kernel
theorem dRB_hits_7 : decode cRB_hits 7 = .ok (.aload_n 0, 1) := by decide +kernel
theorem dRB_hits_8 : decode cRB_hits 8 = .ok (.iload_n 1, 1) := by decide +kernel
theorem dRB_hits_9 : decode cRB_hits 9 = .ok (.iload_n 2, 1) := by decide +kernel
theorem dRB_hits_10 : decode cRB_hits 10 = .ok (.invokevirtual 57, 3) := by decide +kernel
theorem dRB_hits_13 : decode cRB_hits 13 = .ok (.iaload, 1) := by decide +kernel
theorem dRB_hits_14 : decode cRB_hits 14 = .ok (.ireturn, 1) := by decide +kernel
theorem dRB_safe_0 : decode cRB_safe 0 = .ok (.iload_n 1, 1) := by decide +kernel
theorem dRB_safe_1 : decode cRB_safe 1 = .ok (.invokestatic 110, 3) := by decide +kernel
theorem dRB_safe_4 : decode cRB_safe 4 = .ok (.iconst 0, 1) := by decide +kernel
theorem dRB_safe_5 : decode cRB_safe 5 = .ok (.istore_n 2, 1) := by decide +kernel
theorem dRB_safe_6 : decode cRB_safe 6 = .ok (.iconst 0, 1) := by decide +kernel
theorem dRB_safe_7 : decode cRB_safe 7 = .ok (.istore_n 3, 1) := by decide +kernel
theorem dRB_safe_8 : decode cRB_safe 8 = .ok (.iload_n 3, 1) := by decide +kernel
theorem dRB_safe_9 : decode cRB_safe 9 = .ok (.aload_n 0, 1) := by decide +kernel
theorem dRB_safe_10 : decode cRB_safe 10 = .ok (.getfield 28, 3) := by decide +kernel
theorem dRB_safe_13 : decode cRB_safe 13 = .ok (.getfield 50, 3) := by decide +kernel
theorem dRB_safe_16 : decode cRB_safe 16 = .ok (.if_icmp .ge 34, 3) := by decide +kernel
theorem dRB_safe_19 : decode cRB_safe 19 = .ok (.aload_n 0, 1) := by decide +kernel
theorem dRB_safe_20 : decode cRB_safe 20 = .ok (.getfield 37, 3) := by decide +kernel
theorem dRB_safe_23 : decode cRB_safe 23 = .ok (.iload_n 3, 1) := by decide +kernel
theorem dRB_safe_24 : decode cRB_safe 24 = .ok (.invokevirtual 138, 3) := by decide +kernel
theorem dRB_safe_27 : decode cRB_safe 27 = .ok (.ifCond .eq 17, 3) := by decide +kernel
theorem dRB_safe_30 : decode cRB_safe 30 = .ok (.iload_n 2, 1) := by decide +kernel
theorem dRB_safe_31 : decode cRB_safe 31 = .ok (.iload_n 1, 1) := by decide +kernel
theorem dRB_safe_32 : decode cRB_safe 32 = .ok (.if_icmp .ne 9, 3) := by decide +kernel
theorem dRB_safe_35 : decode cRB_safe 35 = .ok (.aload_n 0, 1) := by decide +kernel
theorem dRB_safe_36 : decode cRB_safe 36 = .ok (.iload_n 3, 1) := by decide +kernel
theorem dRB_safe_37 : decode cRB_safe 37 = .ok (.invokevirtual 123, 3) := by decide +kernel
theorem dRB_safe_40 : decode cRB_safe 40 = .ok (.ireturn, 1) := by decide +kernel
theorem dRB_safe_41 : decode cRB_safe 41 = .ok (.iinc 2 1, 3) := by decide +kernel
theorem dRB_safe_44 : decode cRB_safe 44 = .ok (.iinc 3 1, 3) := by decide +kernel
theorem dRB_safe_47 : decode cRB_safe 47 = .ok (.goto (-39), 3) := by decide +kernel
theorem dRB_safe_50 : decode cRB_safe 50 = .ok (.iconst (-1), 1) := by decide +kernel
theorem dRB_safe_51 : decode cRB_safe 51 = .ok (.ireturn, 1) := by decide +kernel
theorem dRB_cover_0 : decode cRB_cover 0 = .ok (.aload_n 0, 1) := by decide +kernel
theorem dRB_cover_1 : decode cRB_cover 1 = .ok (.getfield 37, 3) := by decide +kernel
theorem dRB_cover_4 : decode cRB_cover 4 = .ok (.aload_n 0, 1) := by decide +kernel
theorem dRB_cover_5 : decode cRB_cover 5 = .ok (.iload_n 1, 1) := by decide +kernel
theorem dRB_cover_6 : decode cRB_cover 6 = .ok (.iload_n 2, 1) := by decide +kernel
theorem dRB_cover_7 : decode cRB_cover 7 = .ok (.invokevirtual 57, 3) := by decide +kernel
theorem dRB_cover_10 : decode cRB_cover 10 = .ok (.invokevirtual 141, 3) := by decide +kernel
theorem dRB_cover_13 : decode cRB_cover 13 = .ok (.invokestatic 87, 3) := by decide +kernel
theorem dRB_cover_16 : decode cRB_cover 16 = .ok (.ireturn, 1) := by decide +kernel
theorem dRB_may_0 : decode cRB_may 0 = .ok (.aload_n 0, 1) := by decide +kernel
theorem dRB_may_1 : decode cRB_may 1 = .ok (.iload_n 1, 1) := by decide +kernel
theorem dRB_may_2 : decode cRB_may 2 = .ok (.iload_n 2, 1) := by decide +kernel
theorem dRB_may_3 : decode cRB_may 3 = .ok (.invokevirtual 57, 3) := by decide +kernel
theorem dRB_may_6 : decode cRB_may 6 = .ok (.istore 4, 2) := by decide +kernel
theorem dRB_may_8 : decode cRB_may 8 = .ok (.iload_n 3, 1) := by decide +kernel
theorem dRB_may_9 : decode cRB_may 9 = .ok (.iconst 1, 1) := by decide +kernel
theorem dRB_may_10 : decode cRB_may 10 = .ok (.bipush 50, 2) := by decide +kernel
theorem dRB_may_12 : decode cRB_may 12 = .ok (.invokestatic 61, 3) := by decide +kernel
theorem dRB_may_15 : decode cRB_may 15 = .ok (.aload_n 0, 1) := by decide +kernel
theorem dRB_may_16 : decode cRB_may 16 = .ok (.getfield 46, 3) := by decide +kernel
theorem dRB_may_19 : decode cRB_may 19 = .ok (.invokevirtual 144, 3) := by decide +kernel
theorem dRB_may_22 : decode cRB_may 22 = .ok (.ifCond .eq 13, 3) := by decide +kernel
theorem dRB_may_25 : decode cRB_may 25 = .ok (.new 148, 3) := by decide +kernel
theorem dRB_may_28 : decode cRB_may 28 = .ok (.dup, 1) := by decide +kernel
theorem dRB_may_29 : decode cRB_may 29 = .ok (.ldc 150, 2) := by decide +kernel
theorem dRB_may_31 : decode cRB_may 31 = .ok (.invokespecial 152, 3) := by decide +kernel
theorem dRB_may_34 : decode cRB_may 34 = .ok (.athrow, 1) := by decide +kernel
theorem dRB_may_35 : decode cRB_may 35 = .ok (.aload_n 0, 1) := by decide +kernel
theorem dRB_may_36 : decode cRB_may 36 = .ok (.getfield 46, 3) := by decide +kernel
theorem dRB_may_39 : decode cRB_may 39 = .ok (.iload 4, 2) := by decide +kernel
theorem dRB_may_41 : decode cRB_may 41 = .ok (.iload_n 3, 1) := by decide +kernel
theorem dRB_may_42 : decode cRB_may 42 = .ok (.invokevirtual 153, 3) := by decide +kernel
theorem dRB_may_45 : decode cRB_may 45 = .ok (.aload_n 0, 1) := by decide +kernel
theorem dRB_may_46 : decode cRB_may 46 = .ok (.getfield 46, 3) := by decide +kernel
theorem dRB_may_49 : decode cRB_may 49 = .ok (.getfield 156, 3) := by decide +kernel
theorem dRB_may_52 : decode cRB_may 52 = .ok (.ireturn, 1) := by decide +kernel
theorem dRB_forget_0 : decode cRB_forget 0 = .ok (.aload_n 0, 1) := by decide +kernel
theorem dRB_forget_1 : decode cRB_forget 1 = .ok (.getfield 46, 3) := by decide +kernel
theorem dRB_forget_4 : decode cRB_forget 4 = .ok (.getfield 156, 3) := by decide +kernel
theorem dRB_forget_7 : decode cRB_forget 7 = .ok (.istore_n 1, 1) := by decide +kernel
theorem dRB_forget_8 : decode cRB_forget 8 = .ok (.aload_n 0, 1) := by decide +kernel
theorem dRB_forget_9 : decode cRB_forget 9 = .ok (.getfield 46, 3) := by decide +kernel
theorem dRB_forget_12 : decode cRB_forget 12 = .ok (.iconst 0, 1) := by decide +kernel
theorem dRB_forget_13 : decode cRB_forget 13 = .ok (.putfield 156, 3) := by decide +kernel
theorem dRB_forget_16 : decode cRB_forget 16 = .ok (.iload_n 1, 1) := by decide +kernel
theorem dRB_forget_17 : decode cRB_forget 17 = .ok (.ireturn, 1) := by decide +kernel
theorem dRB_want_0 : decode cRB_want 0 = .ok (.aload_n 0, 1) := by decide +kernel
theorem dRB_want_1 : decode cRB_want 1 = .ok (.iload_n 1, 1) := by decide +kernel
theorem dRB_want_2 : decode cRB_want 2 = .ok (.iload_n 2, 1) := by decide +kernel
theorem dRB_want_3 : decode cRB_want 3 = .ok (.invokevirtual 57, 3) := by decide +kernel
theorem dRB_want_6 : decode cRB_want 6 = .ok (.istore 4, 2) := by decide +kernel
theorem dRB_want_8 : decode cRB_want 8 = .ok (.aload_n 0, 1) := by decide +kernel
theorem dRB_want_9 : decode cRB_want 9 = .ok (.getfield 46, 3) := by decide +kernel
theorem dRB_want_12 : decode cRB_want 12 = .ok (.getfield 159, 3) := by decide +kernel
theorem dRB_want_15 : decode cRB_want 15 = .ok (.iload 4, 2) := by decide +kernel
theorem dRB_want_17 : decode cRB_want 17 = .ok (.baload, 1) := by decide +kernel
theorem dRB_want_18 : decode cRB_want 18 = .ok (.istore 5, 2) := by decide +kernel
theorem dRB_want_20 : decode cRB_want 20 = .ok (.aload_n 0, 1) := by decide +kernel
theorem dRB_want_21 : decode cRB_want 21 = .ok (.getfield 46, 3) := by decide +kernel
theorem dRB_want_24 : decode cRB_want 24 = .ok (.getfield 159, 3) := by decide +kernel
theorem dRB_want_27 : decode cRB_want 27 = .ok (.iload 4, 2) := by decide +kernel
theorem dRB_want_29 : decode cRB_want 29 = .ok (.iload_n 3, 1) := by decide +kernel
theorem dRB_want_30 : decode cRB_want 30 = .ok (.bastore, 1) := by decide +kernel
theorem dRB_want_31 : decode cRB_want 31 = .ok (.iload 5, 2) := by decide +kernel
theorem dRB_want_33 : decode cRB_want 33 = .ok (.ireturn, 1) := by decide +kernel
theorem dRB_choose_0 : decode cRB_choose 0 = .ok (.aload_n 0, 1) := by decide +kernel
theorem dRB_choose_1 : decode cRB_choose 1 = .ok (.getfield 46, 3) := by decide +kernel
theorem dRB_choose_4 : decode cRB_choose 4 = .ok (.invokevirtual 162, 3) := by decide +kernel
theorem dRB_choose_7 : decode cRB_choose 7 = .ok (.ireturn, 1) := by decide +kernel
theorem dRB_put_0 : decode cRB_put 0 = .ok (.iconst 0, 1) := by decide +kernel
theorem dRB_put_1 : decode cRB_put 1 = .ok (.istore_n 2, 1) := by decide +kernel
theorem dRB_put_2 : decode cRB_put 2 = .ok (.iload_n 2, 1) := by decide +kernel
theorem dRB_put_3 : decode cRB_put 3 = .ok (.aload_n 0, 1) := by decide +kernel
theorem dRB_put_4 : decode cRB_put 4 = .ok (.getfield 28, 3) := by decide +kernel
theorem dRB_put_7 : decode cRB_put 7 = .ok (.getfield 50, 3) := by decide +kernel
theorem dRB_put_10 : decode cRB_put 10 = .ok (.if_icmp .ge 23, 3) := by decide +kernel
theorem dRB_put_13 : decode cRB_put 13 = .ok (.aload_n 0, 1) := by decide +kernel
theorem dRB_put_14 : decode cRB_put 14 = .ok (.getfield 53, 3) := by decide +kernel
theorem dRB_put_17 : decode cRB_put 17 = .ok (.iload_n 2, 1) := by decide +kernel
theorem dRB_put_18 : decode cRB_put 18 = .ok (.aload_n 0, 1) := by decide +kernel
theorem dRB_put_19 : decode cRB_put 19 = .ok (.getfield 37, 3) := by decide +kernel
theorem dRB_put_22 : decode cRB_put 22 = .ok (.iload_n 2, 1) := by decide +kernel
theorem dRB_put_23 : decode cRB_put 23 = .ok (.invokevirtual 138, 3) := by decide +kernel
theorem dRB_put_26 : decode cRB_put 26 = .ok (.bastore, 1) := by decide +kernel
theorem dRB_put_27 : decode cRB_put 27 = .ok (.iinc 2 1, 3) := by decide +kernel
theorem dRB_put_30 : decode cRB_put 30 = .ok (.goto (-28), 3) := by decide +kernel
theorem dRB_put_33 : decode cRB_put 33 = .ok (.iconst 0, 1) := by decide +kernel
theorem dRB_put_34 : decode cRB_put 34 = .ok (.istore_n 2, 1) := by decide +kernel
theorem dRB_put_35 : decode cRB_put 35 = .ok (.iload_n 2, 1) := by decide +kernel
theorem dRB_put_36 : decode cRB_put 36 = .ok (.aload_n 0, 1) := by decide +kernel
theorem dRB_put_37 : decode cRB_put 37 = .ok (.getfield 46, 3) := by decide +kernel
theorem dRB_put_40 : decode cRB_put 40 = .ok (.getfield 156, 3) := by decide +kernel
theorem dRB_put_43 : decode cRB_put 43 = .ok (.if_icmp .ge 39, 3) := by decide +kernel
theorem dRB_put_46 : decode cRB_put 46 = .ok (.iload_n 1, 1) := by decide +kernel
theorem dRB_put_47 : decode cRB_put 47 = .ok (.iload_n 2, 1) := by decide +kernel
theorem dRB_put_48 : decode cRB_put 48 = .ok (.invokestatic 165, 3) := by decide +kernel
theorem dRB_put_51 : decode cRB_put 51 = .ok (.ifCond .eq 25, 3) := by decide +kernel
theorem dRB_put_54 : decode cRB_put 54 = .ok (.aload_n 0, 1) := by decide +kernel
theorem dRB_put_55 : decode cRB_put 55 = .ok (.aload_n 0, 1) := by decide +kernel
theorem dRB_put_56 : decode cRB_put 56 = .ok (.getfield 46, 3) := by decide +kernel
theorem dRB_put_59 : decode cRB_put 59 = .ok (.getfield 169, 3) := by decide +kernel
theorem dRB_put_62 : decode cRB_put 62 = .ok (.iload_n 2, 1) := by decide +kernel
theorem dRB_put_63 : decode cRB_put 63 = .ok (.iaload, 1) := by decide +kernel
theorem dRB_put_64 : decode cRB_put 64 = .ok (.aload_n 0, 1) := by decide +kernel
theorem dRB_put_65 : decode cRB_put 65 = .ok (.getfield 46, 3) := by decide +kernel
theorem dRB_put_68 : decode cRB_put 68 = .ok (.getfield 172, 3) := by decide +kernel
theorem dRB_put_71 : decode cRB_put 71 = .ok (.iload_n 2, 1) := by decide +kernel
theorem dRB_put_72 : decode cRB_put 72 = .ok (.iaload, 1) := by decide +kernel
theorem dRB_put_73 : decode cRB_put 73 = .ok (.invokevirtual 78, 3) := by decide +kernel
theorem dRB_put_76 : decode cRB_put 76 = .ok (.iinc 2 1, 3) := by decide +kernel
theorem dRB_put_79 : decode cRB_put 79 = .ok (.goto (-44), 3) := by decide +kernel
theorem dRB_put_82 : decode cRB_put 82 = .ok (.iconst 0, 1) := by decide +kernel
theorem dRB_put_83 : decode cRB_put 83 = .ok (.istore_n 2, 1) := by decide +kernel
theorem dRB_put_84 : decode cRB_put 84 = .ok (.iconst 0, 1) := by decide +kernel
theorem dRB_put_85 : decode cRB_put 85 = .ok (.istore_n 3, 1) := by decide +kernel
theorem dRB_put_86 : decode cRB_put 86 = .ok (.iload_n 3, 1) := by decide +kernel
theorem dRB_put_87 : decode cRB_put 87 = .ok (.aload_n 0, 1) := by decide +kernel
theorem dRB_put_88 : decode cRB_put 88 = .ok (.getfield 28, 3) := by decide +kernel
theorem dRB_put_91 : decode cRB_put 91 = .ok (.getfield 50, 3) := by decide +kernel
theorem dRB_put_94 : decode cRB_put 94 = .ok (.if_icmp .ge 29, 3) := by decide +kernel
theorem dRB_put_97 : decode cRB_put 97 = .ok (.aload_n 0, 1) := by decide +kernel
theorem dRB_put_98 : decode cRB_put 98 = .ok (.getfield 53, 3) := by decide +kernel
theorem dRB_put_101 : decode cRB_put 101 = .ok (.iload_n 3, 1) := by decide +kernel
theorem dRB_put_102 : decode cRB_put 102 = .ok (.baload, 1) := by decide +kernel
theorem dRB_put_103 : decode cRB_put 103 = .ok (.aload_n 0, 1) := by decide +kernel
theorem dRB_put_104 : decode cRB_put 104 = .ok (.getfield 37, 3) := by decide +kernel
theorem dRB_put_107 : decode cRB_put 107 = .ok (.iload_n 3, 1) := by decide +kernel
theorem dRB_put_108 : decode cRB_put 108 = .ok (.invokevirtual 138, 3) := by decide +kernel
theorem dRB_put_111 : decode cRB_put 111 = .ok (.if_icmp .eq 6, 3) := by decide +kernel
theorem dRB_put_114 : decode cRB_put 114 = .ok (.iinc 2 1, 3) := by decide +kernel
theorem dRB_put_117 : decode cRB_put 117 = .ok (.iinc 3 1, 3) := by decide +kernel
theorem dRB_put_120 : decode cRB_put 120 = .ok (.goto (-34), 3) := by decide +kernel
theorem dRB_put_123 : decode cRB_put 123 = .ok (.iload_n 2, 1) := by decide +kernel
theorem dRB_put_124 : decode cRB_put 124 = .ok (.ireturn, 1) := by decide +kernel
theorem dRB_putRod_0 : decode cRB_putRod 0 = .ok (.aload_n 0, 1) := by decide +kernel
theorem dRB_putRod_1 : decode cRB_putRod 1 = .ok (.getfield 28, 3) := by decide +kernel
theorem dRB_putRod_4 : decode cRB_putRod 4 = .ok (.getfield 69, 3) := by decide +kernel
theorem dRB_putRod_7 : decode cRB_putRod 7 = .ok (.iload_n 1, 1) := by decide +kernel
theorem dRB_putRod_8 : decode cRB_putRod 8 = .ok (.iload_n 2, 1) := by decide +kernel
theorem dRB_putRod_9 : decode cRB_putRod 9 = .ok (.iastore, 1) := by decide +kernel
theorem dRB_putRod_10 : decode cRB_putRod 10 = .ok (.aload_n 0, 1) := by decide +kernel
theorem dRB_putRod_11 : decode cRB_putRod 11 = .ok (.getfield 37, 3) := by decide +kernel
theorem dRB_putRod_14 : decode cRB_putRod 14 = .ok (.iload_n 1, 1) := by decide +kernel
theorem dRB_putRod_15 : decode cRB_putRod 15 = .ok (.aload_n 0, 1) := by decide +kernel
theorem dRB_putRod_16 : decode cRB_putRod 16 = .ok (.getfield 28, 3) := by decide +kernel
theorem dRB_putRod_19 : decode cRB_putRod 19 = .ok (.iload_n 1, 1) := by decide +kernel
theorem dRB_putRod_20 : decode cRB_putRod 20 = .ok (.iload_n 2, 1) := by decide +kernel
theorem dRB_putRod_21 : decode cRB_putRod 21 = .ok (.invokevirtual 72, 3) := by decide +kernel
theorem dRB_putRod_24 : decode cRB_putRod 24 = .ok (.invokevirtual 75, 3) := by decide +kernel
theorem dRB_putRod_27 : decode cRB_putRod 27 = .ok (.return_, 1) := by decide +kernel
theorem dRB_numberOf_0 : decode cRB_numberOf 0 = .ok (.bipush 100, 2) := by decide +kernel
theorem dRB_numberOf_2 : decode cRB_numberOf 2 = .ok (.aload_n 0, 1) := by decide +kernel
theorem dRB_numberOf_3 : decode cRB_numberOf 3 = .ok (.getfield 28, 3) := by decide +kernel
theorem dRB_numberOf_6 : decode cRB_numberOf 6 = .ok (.getfield 175, 3) := by decide +kernel
theorem dRB_numberOf_9 : decode cRB_numberOf 9 = .ok (.iload_n 1, 1) := by decide +kernel
theorem dRB_numberOf_10 : decode cRB_numberOf 10 = .ok (.iaload, 1) := by decide +kernel
theorem dRB_numberOf_11 : decode cRB_numberOf 11 = .ok (.imul, 1) := by decide +kernel
theorem dRB_numberOf_12 : decode cRB_numberOf 12 = .ok (.aload_n 0, 1) := by decide +kernel
theorem dRB_numberOf_13 : decode cRB_numberOf 13 = .ok (.getfield 28, 3) := by decide +kernel
theorem dRB_numberOf_16 : decode cRB_numberOf 16 = .ok (.getfield 178, 3) := by decide +kernel
theorem dRB_numberOf_19 : decode cRB_numberOf 19 = .ok (.iload_n 1, 1) := by decide +kernel
theorem dRB_numberOf_20 : decode cRB_numberOf 20 = .ok (.iaload, 1) := by decide +kernel
theorem dRB_numberOf_21 : decode cRB_numberOf 21 = .ok (.iadd, 1) := by decide +kernel
theorem dRB_numberOf_22 : decode cRB_numberOf 22 = .ok (.ireturn, 1) := by decide +kernel
theorem dRB_pointAt_0 : decode cRB_pointAt 0 = .ok (.iload_n 1, 1) := by decide +kernel
theorem dRB_pointAt_1 : decode cRB_pointAt 1 = .ok (.iconst 0, 1) := by decide +kernel
theorem dRB_pointAt_2 : decode cRB_pointAt 2 = .ok (.aload_n 0, 1) := by decide +kernel
theorem dRB_pointAt_3 : decode cRB_pointAt 3 = .ok (.getfield 13, 3) := by decide +kernel
theorem dRB_pointAt_6 : decode cRB_pointAt 6 = .ok (.iconst 1, 1) := by decide +kernel
theorem dRB_pointAt_7 : decode cRB_pointAt 7 = .ok (.isub, 1) := by decide +kernel
theorem dRB_pointAt_8 : decode cRB_pointAt 8 = .ok (.invokestatic 61, 3) := by decide +kernel
theorem dRB_pointAt_11 : decode cRB_pointAt 11 = .ok (.iload_n 2, 1) := by decide +kernel
theorem dRB_pointAt_12 : decode cRB_pointAt 12 = .ok (.iconst 0, 1) := by decide +kernel
theorem dRB_pointAt_13 : decode cRB_pointAt 13 = .ok (.aload_n 0, 1) := by decide +kernel
theorem dRB_pointAt_14 : decode cRB_pointAt 14 = .ok (.getfield 17, 3) := by decide +kernel
theorem dRB_pointAt_17 : decode cRB_pointAt 17 = .ok (.iconst 1, 1) := by decide +kernel
theorem dRB_pointAt_18 : decode cRB_pointAt 18 = .ok (.isub, 1) := by decide +kernel
theorem dRB_pointAt_19 : decode cRB_pointAt 19 = .ok (.invokestatic 61, 3) := by decide +kernel
theorem dRB_pointAt_22 : decode cRB_pointAt 22 = .ok (.iload_n 2, 1) := by decide +kernel
theorem dRB_pointAt_23 : decode cRB_pointAt 23 = .ok (.aload_n 0, 1) := by decide +kernel
theorem dRB_pointAt_24 : decode cRB_pointAt 24 = .ok (.getfield 13, 3) := by decide +kernel
theorem dRB_pointAt_27 : decode cRB_pointAt 27 = .ok (.imul, 1) := by decide +kernel
theorem dRB_pointAt_28 : decode cRB_pointAt 28 = .ok (.iload_n 1, 1) := by decide +kernel
theorem dRB_pointAt_29 : decode cRB_pointAt 29 = .ok (.iadd, 1) := by decide +kernel
theorem dRB_pointAt_30 : decode cRB_pointAt 30 = .ok (.ireturn, 1) := by decide +kernel
theorem dRB_needPlace_0 : decode cRB_needPlace 0 = .ok (.iload_n 1, 1) := by decide +kernel
theorem dRB_needPlace_1 : decode cRB_needPlace 1 = .ok (.aload_n 0, 1) := by decide +kernel
theorem dRB_needPlace_2 : decode cRB_needPlace 2 = .ok (.getfield 20, 3) := by decide +kernel
theorem dRB_needPlace_5 : decode cRB_needPlace 5 = .ok (.ineg, 1) := by decide +kernel
theorem dRB_needPlace_6 : decode cRB_needPlace 6 = .ok (.aload_n 0, 1) := by decide +kernel
theorem dRB_needPlace_7 : decode cRB_needPlace 7 = .ok (.getfield 13, 3) := by decide +kernel
theorem dRB_needPlace_10 : decode cRB_needPlace 10 = .ok (.iconst 1, 1) := by decide +kernel
theorem dRB_needPlace_11 : decode cRB_needPlace 11 = .ok (.isub, 1) := by decide +kernel
theorem dRB_needPlace_12 : decode cRB_needPlace 12 = .ok (.aload_n 0, 1) := by decide +kernel
theorem dRB_needPlace_13 : decode cRB_needPlace 13 = .ok (.getfield 20, 3) := by decide +kernel
theorem dRB_needPlace_16 : decode cRB_needPlace 16 = .ok (.iadd, 1) := by decide +kernel
theorem dRB_needPlace_17 : decode cRB_needPlace 17 = .ok (.invokestatic 61, 3) := by decide +kernel
theorem dRB_needPlace_20 : decode cRB_needPlace 20 = .ok (.iload_n 2, 1) := by decide +kernel
theorem dRB_needPlace_21 : decode cRB_needPlace 21 = .ok (.aload_n 0, 1) := by decide +kernel
theorem dRB_needPlace_22 : decode cRB_needPlace 22 = .ok (.getfield 20, 3) := by decide +kernel
theorem dRB_needPlace_25 : decode cRB_needPlace 25 = .ok (.ineg, 1) := by decide +kernel
theorem dRB_needPlace_26 : decode cRB_needPlace 26 = .ok (.aload_n 0, 1) := by decide +kernel
theorem dRB_needPlace_27 : decode cRB_needPlace 27 = .ok (.getfield 17, 3) := by decide +kernel
theorem dRB_needPlace_30 : decode cRB_needPlace 30 = .ok (.iconst 1, 1) := by decide +kernel
theorem dRB_needPlace_31 : decode cRB_needPlace 31 = .ok (.isub, 1) := by decide +kernel
theorem dRB_needPlace_32 : decode cRB_needPlace 32 = .ok (.aload_n 0, 1) := by decide +kernel
theorem dRB_needPlace_33 : decode cRB_needPlace 33 = .ok (.getfield 20, 3) := by decide +kernel
theorem dRB_needPlace_36 : decode cRB_needPlace 36 = .ok (.iadd, 1) := by decide +kernel
theorem dRB_needPlace_37 : decode cRB_needPlace 37 = .ok (.invokestatic 61, 3) := by decide +kernel
theorem dRB_needPlace_40 : decode cRB_needPlace 40 = .ok (.return_, 1) := by decide +kernel
theorem dRB_needIndex_0 : decode cRB_needIndex 0 = .ok (.iload_n 0, 1) := by decide +kernel
theorem dRB_needIndex_1 : decode cRB_needIndex 1 = .ok (.ifCond .ge 13, 3) := by decide +kernel
theorem dRB_needIndex_4 : decode cRB_needIndex 4 = .ok (.new 103, 3) := by decide +kernel
theorem dRB_needIndex_7 : decode cRB_needIndex 7 = .ok (.dup, 1) := by decide +kernel
theorem dRB_needIndex_8 : decode cRB_needIndex 8 = .ok (.ldc 181, 2) := by decide +kernel
theorem dRB_needIndex_10 : decode cRB_needIndex 10 = .ok (.invokespecial 107, 3) := by decide +kernel
theorem dRB_needIndex_13 : decode cRB_needIndex 13 = .ok (.athrow, 1) := by decide +kernel
theorem dRB_needIndex_14 : decode cRB_needIndex 14 = .ok (.return_, 1) := by decide +kernel
theorem dRB_needNumber_0 : decode cRB_needNumber 0 = .ok (.iload_n 0, 1) := by decide +kernel
theorem dRB_needNumber_1 : decode cRB_needNumber 1 = .ok (.iload_n 1, 1) := by decide +kernel
theorem dRB_needNumber_2 : decode cRB_needNumber 2 = .ok (.if_icmp .lt 8, 3) := by decide +kernel
theorem dRB_needNumber_5 : decode cRB_needNumber 5 = .ok (.iload_n 0, 1) := by decide +kernel
theorem dRB_needNumber_6 : decode cRB_needNumber 6 = .ok (.iload_n 2, 1) := by decide +kernel
theorem dRB_needNumber_7 : decode cRB_needNumber 7 = .ok (.if_icmp .le 13, 3) := by decide +kernel
theorem dRB_needNumber_10 : decode cRB_needNumber 10 = .ok (.new 103, 3) := by decide +kernel
theorem dRB_needNumber_13 : decode cRB_needNumber 13 = .ok (.dup, 1) := by decide +kernel
theorem dRB_needNumber_14 : decode cRB_needNumber 14 = .ok (.ldc 183, 2) := by decide +kernel
theorem dRB_needNumber_16 : decode cRB_needNumber 16 = .ok (.invokespecial 107, 3) := by decide +kernel
theorem dRB_needNumber_19 : decode cRB_needNumber 19 = .ok (.athrow, 1) := by decide +kernel
theorem dRB_needNumber_20 : decode cRB_needNumber 20 = .ok (.return_, 1) := by decide +kernel
theorem dRB_between_0 : decode cRB_between 0 = .ok (.iload_n 1, 1) := by decide +kernel
theorem dRB_between_1 : decode cRB_between 1 = .ok (.iload_n 0, 1) := by decide +kernel
theorem dRB_between_2 : decode cRB_between 2 = .ok (.iload_n 2, 1) := by decide +kernel
theorem dRB_between_3 : decode cRB_between 3 = .ok (.invokestatic 185, 3) := by decide +kernel
theorem dRB_between_6 : decode cRB_between 6 = .ok (.invokestatic 190, 3) := by decide +kernel
theorem dRB_between_9 : decode cRB_between 9 = .ok (.ireturn, 1) := by decide +kernel
theorem dMO_init_0 : decode cMO_init 0 = .ok (.aload_n 0, 1) := by decide +kernel
theorem dMO_init_1 : decode cMO_init 1 = .ok (.invokespecial 1, 3) := by decide +kernel
theorem dMO_init_4 : decode cMO_init 4 = .ok (.aload_n 0, 1) := by decide +kernel
theorem dMO_init_5 : decode cMO_init 5 = .ok (.sipush 144, 3) := by decide +kernel
theorem dMO_init_8 : decode cMO_init 8 = .ok (.newarray .int, 2) := by decide +kernel
theorem dMO_init_10 : decode cMO_init 10 = .ok (.putfield 7, 3) := by decide +kernel
theorem dMO_init_13 : decode cMO_init 13 = .ok (.aload_n 0, 1) := by decide +kernel
theorem dMO_init_14 : decode cMO_init 14 = .ok (.sipush 144, 3) := by decide +kernel
theorem dMO_init_17 : decode cMO_init 17 = .ok (.newarray .int, 2) := by decide +kernel
theorem dMO_init_19 : decode cMO_init 19 = .ok (.putfield 13, 3) := by decide +kernel
theorem dMO_init_22 : decode cMO_init 22 = .ok (.aload_n 0, 1) := by decide +kernel
theorem dMO_init_23 : decode cMO_init 23 = .ok (.sipush 144, 3) := by decide +kernel
theorem dMO_init_26 : decode cMO_init 26 = .ok (.newarray .int, 2) := by decide +kernel
theorem dMO_init_28 : decode cMO_init 28 = .ok (.putfield 16, 3) := by decide +kernel
theorem dMO_init_31 : decode cMO_init 31 = .ok (.aload_n 0, 1) := by decide +kernel
theorem dMO_init_32 : decode cMO_init 32 = .ok (.sipush 144, 3) := by decide +kernel
theorem dMO_init_35 : decode cMO_init 35 = .ok (.newarray .boolean, 2) := by decide +kernel
theorem dMO_init_37 : decode cMO_init 37 = .ok (.putfield 19, 3) := by decide +kernel
theorem dMO_init_40 : decode cMO_init 40 = .ok (.aload_n 0, 1) := by decide +kernel
theorem dMO_init_41 : decode cMO_init 41 = .ok (.iconst 4, 1) := by decide +kernel
theorem dMO_init_42 : decode cMO_init 42 = .ok (.newarray .int, 2) := by decide +kernel
theorem dMO_init_44 : decode cMO_init 44 = .ok (.putfield 23, 3) := by decide +kernel
theorem dMO_init_47 : decode cMO_init 47 = .ok (.aload_n 0, 1) := by decide +kernel
theorem dMO_init_48 : decode cMO_init 48 = .ok (.iconst 4, 1) := by decide +kernel
end
section
theorem dMO_init_49 : decode cMO_init 49 = .ok (.newarray .int, 2) := by decide +kernel
theorem dMO_init_51 : decode cMO_init 51 = .ok (.putfield 26, 3) := by decide +kernel
theorem dMO_init_54 : decode cMO_init 54 = .ok (.aload_n 0, 1) := by decide +kernel
theorem dMO_init_55 : decode cMO_init 55 = .ok (.sipush 1024, 3) := by decide +kernel
theorem dMO_init_58 : decode cMO_init 58 = .ok (.newarray .int, 2) := by decide +kernel
theorem dMO_init_60 : decode cMO_init 60 = .ok (.putfield 29, 3) := by decide +kernel
theorem dMO_init_63 : decode cMO_init 63 = .ok (.aload_n 0, 1) := by decide +kernel
theorem dMO_init_64 : decode cMO_init 64 = .ok (.sipush 1024, 3) := by decide +kernel
theorem dMO_init_67 : decode cMO_init 67 = .ok (.newarray .int, 2) := by decide +kernel
theorem dMO_init_69 : decode cMO_init 69 = .ok (.putfield 32, 3) := by decide +kernel
theorem dMO_init_72 : decode cMO_init 72 = .ok (.aload_n 0, 1) := by decide +kernel
theorem dMO_init_73 : decode cMO_init 73 = .ok (.sipush 144, 3) := by decide +kernel
theorem dMO_init_76 : decode cMO_init 76 = .ok (.newarray .int, 2) := by decide +kernel
theorem dMO_init_78 : decode cMO_init 78 = .ok (.putfield 35, 3) := by decide +kernel
theorem dMO_init_81 : decode cMO_init 81 = .ok (.aload_n 0, 1) := by decide +kernel
theorem dMO_init_82 : decode cMO_init 82 = .ok (.sipush 144, 3) := by decide +kernel
theorem dMO_init_85 : decode cMO_init 85 = .ok (.newarray .boolean, 2) := by decide +kernel
theorem dMO_init_87 : decode cMO_init 87 = .ok (.putfield 38, 3) := by decide +kernel
theorem dMO_init_90 : decode cMO_init 90 = .ok (.aload_n 0, 1) := by decide +kernel
theorem dMO_init_91 : decode cMO_init 91 = .ok (.iload_n 1, 1) := by decide +kernel
theorem dMO_init_92 : decode cMO_init 92 = .ok (.bipush 12, 2) := by decide +kernel
theorem dMO_init_94 : decode cMO_init 94 = .ok (.invokestatic 41, 3) := by decide +kernel
theorem dMO_init_97 : decode cMO_init 97 = .ok (.putfield 45, 3) := by decide +kernel
theorem dMO_init_100 : decode cMO_init 100 = .ok (.aload_n 0, 1) := by decide +kernel
theorem dMO_init_101 : decode cMO_init 101 = .ok (.iload_n 2, 1) := by decide +kernel
theorem dMO_init_102 : decode cMO_init 102 = .ok (.bipush 12, 2) := by decide +kernel
theorem dMO_init_104 : decode cMO_init 104 = .ok (.invokestatic 41, 3) := by decide +kernel
theorem dMO_init_107 : decode cMO_init 107 = .ok (.putfield 49, 3) := by decide +kernel
theorem dMO_init_110 : decode cMO_init 110 = .ok (.aload_n 0, 1) := by decide +kernel
theorem dMO_init_111 : decode cMO_init 111 = .ok (.iload_n 3, 1) := by decide +kernel
theorem dMO_init_112 : decode cMO_init 112 = .ok (.bipush 10, 2) := by decide +kernel
theorem dMO_init_114 : decode cMO_init 114 = .ok (.invokestatic 41, 3) := by decide +kernel
theorem dMO_init_117 : decode cMO_init 117 = .ok (.putfield 52, 3) := by decide +kernel
theorem dMO_init_120 : decode cMO_init 120 = .ok (.return_, 1) := by decide +kernel
theorem dMO_nearest_0 : decode cMO_nearest 0 = .ok (.iload_n 0, 1) := by decide +kernel
theorem dMO_nearest_1 : decode cMO_nearest 1 = .ok (.iconst 1, 1) := by decide +kernel
theorem dMO_nearest_2 : decode cMO_nearest 2 = .ok (.if_icmp .ge 7, 3) := by decide +kernel
theorem dMO_nearest_5 : decode cMO_nearest 5 = .ok (.iconst 1, 1) := by decide +kernel
theorem dMO_nearest_6 : decode cMO_nearest 6 = .ok (.goto 13, 3) := by decide +kernel
theorem dMO_nearest_9 : decode cMO_nearest 9 = .ok (.iload_n 0, 1) := by decide +kernel
theorem dMO_nearest_10 : decode cMO_nearest 10 = .ok (.iload_n 1, 1) := by decide +kernel
theorem dMO_nearest_11 : decode cMO_nearest 11 = .ok (.if_icmp .le 7, 3) := by decide +kernel
theorem dMO_nearest_14 : decode cMO_nearest 14 = .ok (.iload_n 1, 1) := by decide +kernel
theorem dMO_nearest_15 : decode cMO_nearest 15 = .ok (.goto 4, 3) := by decide +kernel
theorem dMO_nearest_18 : decode cMO_nearest 18 = .ok (.iload_n 0, 1) := by decide +kernel
theorem dMO_nearest_19 : decode cMO_nearest 19 = .ok (.ireturn, 1) := by decide +kernel
theorem dMO_thrown_0 : decode cMO_thrown 0 = .ok (.aload_n 0, 1) := by decide +kernel
theorem dMO_thrown_1 : decode cMO_thrown 1 = .ok (.getfield 55, 3) := by decide +kernel
theorem dMO_thrown_4 : decode cMO_thrown 4 = .ok (.ireturn, 1) := by decide +kernel
theorem dMO_in_0 : decode cMO_in 0 = .ok (.iload_n 0, 1) := by decide +kernel
theorem dMO_in_1 : decode cMO_in 1 = .ok (.iload_n 1, 1) := by decide +kernel
theorem dMO_in_2 : decode cMO_in 2 = .ok (.if_icmp .lt 12, 3) := by decide +kernel
theorem dMO_in_5 : decode cMO_in 5 = .ok (.iload_n 0, 1) := by decide +kernel
theorem dMO_in_6 : decode cMO_in 6 = .ok (.iload_n 2, 1) := by decide +kernel
theorem dMO_in_7 : decode cMO_in 7 = .ok (.if_icmp .gt 7, 3) := by decide +kernel
theorem dMO_in_10 : decode cMO_in 10 = .ok (.iconst 1, 1) := by decide +kernel
theorem dMO_in_11 : decode cMO_in 11 = .ok (.goto 4, 3) := by decide +kernel
theorem dMO_in_14 : decode cMO_in 14 = .ok (.iconst 0, 1) := by decide +kernel
theorem dMO_in_15 : decode cMO_in 15 = .ok (.ireturn, 1) := by decide +kernel
theorem dMO_isPoint_0 : decode cMO_isPoint 0 = .ok (.iload_n 1, 1) := by decide +kernel
theorem dMO_isPoint_1 : decode cMO_isPoint 1 = .ok (.iconst 0, 1) := by decide +kernel
theorem dMO_isPoint_2 : decode cMO_isPoint 2 = .ok (.aload_n 0, 1) := by decide +kernel
theorem dMO_isPoint_3 : decode cMO_isPoint 3 = .ok (.getfield 45, 3) := by decide +kernel
theorem dMO_isPoint_6 : decode cMO_isPoint 6 = .ok (.iconst 1, 1) := by decide +kernel
theorem dMO_isPoint_7 : decode cMO_isPoint 7 = .ok (.isub, 1) := by decide +kernel
theorem dMO_isPoint_8 : decode cMO_isPoint 8 = .ok (.invokestatic 58, 3) := by decide +kernel
theorem dMO_isPoint_11 : decode cMO_isPoint 11 = .ok (.ifCond .eq 21, 3) := by decide +kernel
theorem dMO_isPoint_14 : decode cMO_isPoint 14 = .ok (.iload_n 2, 1) := by decide +kernel
theorem dMO_isPoint_15 : decode cMO_isPoint 15 = .ok (.iconst 0, 1) := by decide +kernel
theorem dMO_isPoint_16 : decode cMO_isPoint 16 = .ok (.aload_n 0, 1) := by decide +kernel
theorem dMO_isPoint_17 : decode cMO_isPoint 17 = .ok (.getfield 49, 3) := by decide +kernel
theorem dMO_isPoint_20 : decode cMO_isPoint 20 = .ok (.iconst 1, 1) := by decide +kernel
theorem dMO_isPoint_21 : decode cMO_isPoint 21 = .ok (.isub, 1) := by decide +kernel
theorem dMO_isPoint_22 : decode cMO_isPoint 22 = .ok (.invokestatic 58, 3) := by decide +kernel
theorem dMO_isPoint_25 : decode cMO_isPoint 25 = .ok (.ifCond .eq 7, 3) := by decide +kernel
theorem dMO_isPoint_28 : decode cMO_isPoint 28 = .ok (.iconst 1, 1) := by decide +kernel
theorem dMO_isPoint_29 : decode cMO_isPoint 29 = .ok (.goto 4, 3) := by decide +kernel
theorem dMO_isPoint_32 : decode cMO_isPoint 32 = .ok (.iconst 0, 1) := by decide +kernel
theorem dMO_isPoint_33 : decode cMO_isPoint 33 = .ok (.ireturn, 1) := by decide +kernel
theorem dMO_isPlace_0 : decode cMO_isPlace 0 = .ok (.iload_n 1, 1) := by decide +kernel
theorem dMO_isPlace_1 : decode cMO_isPlace 1 = .ok (.aload_n 0, 1) := by decide +kernel
theorem dMO_isPlace_2 : decode cMO_isPlace 2 = .ok (.getfield 52, 3) := by decide +kernel
theorem dMO_isPlace_5 : decode cMO_isPlace 5 = .ok (.ineg, 1) := by decide +kernel
theorem dMO_isPlace_6 : decode cMO_isPlace 6 = .ok (.aload_n 0, 1) := by decide +kernel
theorem dMO_isPlace_7 : decode cMO_isPlace 7 = .ok (.getfield 45, 3) := by decide +kernel
theorem dMO_isPlace_10 : decode cMO_isPlace 10 = .ok (.iconst 1, 1) := by decide +kernel
theorem dMO_isPlace_11 : decode cMO_isPlace 11 = .ok (.isub, 1) := by decide +kernel
theorem dMO_isPlace_12 : decode cMO_isPlace 12 = .ok (.aload_n 0, 1) := by decide +kernel
theorem dMO_isPlace_13 : decode cMO_isPlace 13 = .ok (.getfield 52, 3) := by decide +kernel
theorem dMO_isPlace_16 : decode cMO_isPlace 16 = .ok (.iadd, 1) := by decide +kernel
theorem dMO_isPlace_17 : decode cMO_isPlace 17 = .ok (.invokestatic 58, 3) := by decide +kernel
theorem dMO_isPlace_20 : decode cMO_isPlace 20 = .ok (.ifCond .eq 30, 3) := by decide +kernel
theorem dMO_isPlace_23 : decode cMO_isPlace 23 = .ok (.iload_n 2, 1) := by decide +kernel
theorem dMO_isPlace_24 : decode cMO_isPlace 24 = .ok (.aload_n 0, 1) := by decide +kernel
theorem dMO_isPlace_25 : decode cMO_isPlace 25 = .ok (.getfield 52, 3) := by decide +kernel
theorem dMO_isPlace_28 : decode cMO_isPlace 28 = .ok (.ineg, 1) := by decide +kernel
theorem dMO_isPlace_29 : decode cMO_isPlace 29 = .ok (.aload_n 0, 1) := by decide +kernel
theorem dMO_isPlace_30 : decode cMO_isPlace 30 = .ok (.getfield 49, 3) := by decide +kernel
theorem dMO_isPlace_33 : decode cMO_isPlace 33 = .ok (.iconst 1, 1) := by decide +kernel
theorem dMO_isPlace_34 : decode cMO_isPlace 34 = .ok (.isub, 1) := by decide +kernel
theorem dMO_isPlace_35 : decode cMO_isPlace 35 = .ok (.aload_n 0, 1) := by decide +kernel
theorem dMO_isPlace_36 : decode cMO_isPlace 36 = .ok (.getfield 52, 3) := by decide +kernel
theorem dMO_isPlace_39 : decode cMO_isPlace 39 = .ok (.iadd, 1) := by decide +kernel
theorem dMO_isPlace_40 : decode cMO_isPlace 40 = .ok (.invokestatic 58, 3) := by decide +kernel
theorem dMO_isPlace_43 : decode cMO_isPlace 43 = .ok (.ifCond .eq 7, 3) := by decide +kernel
theorem dMO_isPlace_46 : decode cMO_isPlace 46 = .ok (.iconst 1, 1) := by decide +kernel
theorem dMO_isPlace_47 : decode cMO_isPlace 47 = .ok (.goto 4, 3) := by decide +kernel
theorem dMO_isPlace_50 : decode cMO_isPlace 50 = .ok (.iconst 0, 1) := by decide +kernel
theorem dMO_isPlace_51 : decode cMO_isPlace 51 = .ok (.ireturn, 1) := by decide +kernel
theorem dMO_spot_0 : decode cMO_spot 0 = .ok (.bipush 12, 2) := by decide +kernel
theorem dMO_spot_2 : decode cMO_spot 2 = .ok (.iload_n 1, 1) := by decide +kernel
theorem dMO_spot_3 : decode cMO_spot 3 = .ok (.imul, 1) := by decide +kernel
theorem dMO_spot_4 : decode cMO_spot 4 = .ok (.iload_n 0, 1) := by decide +kernel
theorem dMO_spot_5 : decode cMO_spot 5 = .ok (.iadd, 1) := by decide +kernel
theorem dMO_spot_6 : decode cMO_spot 6 = .ok (.ireturn, 1) := by decide +kernel
theorem dMO_across_0 : decode cMO_across 0 = .ok (.aload_n 0, 1) := by decide +kernel
theorem dMO_across_1 : decode cMO_across 1 = .ok (.getfield 45, 3) := by decide +kernel
theorem dMO_across_4 : decode cMO_across 4 = .ok (.iconst 2, 1) := by decide +kernel
theorem dMO_across_5 : decode cMO_across 5 = .ok (.aload_n 0, 1) := by decide +kernel
theorem dMO_across_6 : decode cMO_across 6 = .ok (.getfield 52, 3) := by decide +kernel
theorem dMO_across_9 : decode cMO_across 9 = .ok (.imul, 1) := by decide +kernel
theorem dMO_across_10 : decode cMO_across 10 = .ok (.iadd, 1) := by decide +kernel
theorem dMO_across_11 : decode cMO_across 11 = .ok (.ireturn, 1) := by decide +kernel
theorem dMO_places_0 : decode cMO_places 0 = .ok (.aload_n 0, 1) := by decide +kernel
theorem dMO_places_1 : decode cMO_places 1 = .ok (.invokevirtual 62, 3) := by decide +kernel
theorem dMO_places_4 : decode cMO_places 4 = .ok (.aload_n 0, 1) := by decide +kernel
theorem dMO_places_5 : decode cMO_places 5 = .ok (.getfield 49, 3) := by decide +kernel
theorem dMO_places_8 : decode cMO_places 8 = .ok (.iconst 2, 1) := by decide +kernel
theorem dMO_places_9 : decode cMO_places 9 = .ok (.aload_n 0, 1) := by decide +kernel
theorem dMO_places_10 : decode cMO_places 10 = .ok (.getfield 52, 3) := by decide +kernel
theorem dMO_places_13 : decode cMO_places 13 = .ok (.imul, 1) := by decide +kernel
theorem dMO_places_14 : decode cMO_places 14 = .ok (.iadd, 1) := by decide +kernel
theorem dMO_places_15 : decode cMO_places 15 = .ok (.imul, 1) := by decide +kernel
theorem dMO_places_16 : decode cMO_places 16 = .ok (.ireturn, 1) := by decide +kernel
theorem dMO_placeAt_0 : decode cMO_placeAt 0 = .ok (.aload_n 0, 1) := by decide +kernel
theorem dMO_placeAt_1 : decode cMO_placeAt 1 = .ok (.invokevirtual 62, 3) := by decide +kernel
theorem dMO_placeAt_4 : decode cMO_placeAt 4 = .ok (.iload_n 2, 1) := by decide +kernel
theorem dMO_placeAt_5 : decode cMO_placeAt 5 = .ok (.aload_n 0, 1) := by decide +kernel
theorem dMO_placeAt_6 : decode cMO_placeAt 6 = .ok (.getfield 52, 3) := by decide +kernel
theorem dMO_placeAt_9 : decode cMO_placeAt 9 = .ok (.iadd, 1) := by decide +kernel
theorem dMO_placeAt_10 : decode cMO_placeAt 10 = .ok (.imul, 1) := by decide +kernel
theorem dMO_placeAt_11 : decode cMO_placeAt 11 = .ok (.iload_n 1, 1) := by decide +kernel
theorem dMO_placeAt_12 : decode cMO_placeAt 12 = .ok (.iadd, 1) := by decide +kernel
theorem dMO_placeAt_13 : decode cMO_placeAt 13 = .ok (.aload_n 0, 1) := by decide +kernel
theorem dMO_placeAt_14 : decode cMO_placeAt 14 = .ok (.getfield 52, 3) := by decide +kernel
theorem dMO_placeAt_17 : decode cMO_placeAt 17 = .ok (.iadd, 1) := by decide +kernel
theorem dMO_placeAt_18 : decode cMO_placeAt 18 = .ok (.ireturn, 1) := by decide +kernel
theorem dMO_compare_0 : decode cMO_compare 0 = .ok (.iload_n 0, 1) := by decide +kernel
theorem dMO_compare_1 : decode cMO_compare 1 = .ok (.iload_n 2, 1) := by decide +kernel
theorem dMO_compare_2 : decode cMO_compare 2 = .ok (.if_icmp .ge 12, 3) := by decide +kernel
theorem dMO_compare_5 : decode cMO_compare 5 = .ok (.iload_n 2, 1) := by decide +kernel
theorem dMO_compare_6 : decode cMO_compare 6 = .ok (.iload_n 3, 1) := by decide +kernel
theorem dMO_compare_7 : decode cMO_compare 7 = .ok (.iload_n 0, 1) := by decide +kernel
theorem dMO_compare_8 : decode cMO_compare 8 = .ok (.iload_n 1, 1) := by decide +kernel
theorem dMO_compare_9 : decode cMO_compare 9 = .ok (.invokestatic 66, 3) := by decide +kernel
theorem dMO_compare_12 : decode cMO_compare 12 = .ok (.ineg, 1) := by decide +kernel
theorem dMO_compare_13 : decode cMO_compare 13 = .ok (.ireturn, 1) := by decide +kernel
theorem dMO_compare_14 : decode cMO_compare 14 = .ok (.iload_n 0, 1) := by decide +kernel
theorem dMO_compare_15 : decode cMO_compare 15 = .ok (.iload_n 2, 1) := by decide +kernel
theorem dMO_compare_16 : decode cMO_compare 16 = .ok (.isub, 1) := by decide +kernel
theorem dMO_compare_17 : decode cMO_compare 17 = .ok (.istore 4, 2) := by decide +kernel
theorem dMO_compare_19 : decode cMO_compare 19 = .ok (.iload_n 3, 1) := by decide +kernel
theorem dMO_compare_20 : decode cMO_compare 20 = .ok (.iload 4, 2) := by decide +kernel
theorem dMO_compare_22 : decode cMO_compare 22 = .ok (.iload 4, 2) := by decide +kernel
theorem dMO_compare_24 : decode cMO_compare 24 = .ok (.imul, 1) := by decide +kernel
theorem dMO_compare_25 : decode cMO_compare 25 = .ok (.isub, 1) := by decide +kernel
theorem dMO_compare_26 : decode cMO_compare 26 = .ok (.iload_n 1, 1) := by decide +kernel
theorem dMO_compare_27 : decode cMO_compare 27 = .ok (.isub, 1) := by decide +kernel
theorem dMO_compare_28 : decode cMO_compare 28 = .ok (.istore 5, 2) := by decide +kernel
theorem dMO_compare_30 : decode cMO_compare 30 = .ok (.iload 5, 2) := by decide +kernel
theorem dMO_compare_32 : decode cMO_compare 32 = .ok (.ifCond .ge 5, 3) := by decide +kernel
theorem dMO_compare_35 : decode cMO_compare 35 = .ok (.iconst 1, 1) := by decide +kernel
theorem dMO_compare_36 : decode cMO_compare 36 = .ok (.ireturn, 1) := by decide +kernel
theorem dMO_compare_37 : decode cMO_compare 37 = .ok (.iconst 4, 1) := by decide +kernel
theorem dMO_compare_38 : decode cMO_compare 38 = .ok (.iload 4, 2) := by decide +kernel
theorem dMO_compare_40 : decode cMO_compare 40 = .ok (.imul, 1) := by decide +kernel
theorem dMO_compare_41 : decode cMO_compare 41 = .ok (.iload 4, 2) := by decide +kernel
theorem dMO_compare_43 : decode cMO_compare 43 = .ok (.imul, 1) := by decide +kernel
theorem dMO_compare_44 : decode cMO_compare 44 = .ok (.iload_n 1, 1) := by decide +kernel
theorem dMO_compare_45 : decode cMO_compare 45 = .ok (.imul, 1) := by decide +kernel
theorem dMO_compare_46 : decode cMO_compare 46 = .ok (.istore 6, 2) := by decide +kernel
theorem dMO_compare_48 : decode cMO_compare 48 = .ok (.iload 5, 2) := by decide +kernel
theorem dMO_compare_50 : decode cMO_compare 50 = .ok (.iload 5, 2) := by decide +kernel
theorem dMO_compare_52 : decode cMO_compare 52 = .ok (.imul, 1) := by decide +kernel
theorem dMO_compare_53 : decode cMO_compare 53 = .ok (.istore 7, 2) := by decide +kernel
theorem dMO_compare_55 : decode cMO_compare 55 = .ok (.iload 6, 2) := by decide +kernel
theorem dMO_compare_57 : decode cMO_compare 57 = .ok (.iload 7, 2) := by decide +kernel
theorem dMO_compare_59 : decode cMO_compare 59 = .ok (.if_icmp .le 7, 3) := by decide +kernel
theorem dMO_compare_62 : decode cMO_compare 62 = .ok (.iconst 1, 1) := by decide +kernel
theorem dMO_compare_63 : decode cMO_compare 63 = .ok (.goto 15, 3) := by decide +kernel
theorem dMO_compare_66 : decode cMO_compare 66 = .ok (.iload 6, 2) := by decide +kernel
theorem dMO_compare_68 : decode cMO_compare 68 = .ok (.iload 7, 2) := by decide +kernel
theorem dMO_compare_70 : decode cMO_compare 70 = .ok (.if_icmp .ge 7, 3) := by decide +kernel
theorem dMO_compare_73 : decode cMO_compare 73 = .ok (.iconst (-1), 1) := by decide +kernel
theorem dMO_compare_74 : decode cMO_compare 74 = .ok (.goto 4, 3) := by decide +kernel
theorem dMO_compare_77 : decode cMO_compare 77 = .ok (.iconst 0, 1) := by decide +kernel
theorem dMO_compare_78 : decode cMO_compare 78 = .ok (.ireturn, 1) := by decide +kernel
theorem dMO_rootOf_0 : decode cMO_rootOf 0 = .ok (.iconst 0, 1) := by decide +kernel
theorem dMO_rootOf_1 : decode cMO_rootOf 1 = .ok (.istore_n 1, 1) := by decide +kernel
theorem dMO_rootOf_2 : decode cMO_rootOf 2 = .ok (.iload_n 1, 1) := by decide +kernel
theorem dMO_rootOf_3 : decode cMO_rootOf 3 = .ok (.iconst 1, 1) := by decide +kernel
theorem dMO_rootOf_4 : decode cMO_rootOf 4 = .ok (.iadd, 1) := by decide +kernel
theorem dMO_rootOf_5 : decode cMO_rootOf 5 = .ok (.iload_n 1, 1) := by decide +kernel
theorem dMO_rootOf_6 : decode cMO_rootOf 6 = .ok (.iconst 1, 1) := by decide +kernel
theorem dMO_rootOf_7 : decode cMO_rootOf 7 = .ok (.iadd, 1) := by decide +kernel
theorem dMO_rootOf_8 : decode cMO_rootOf 8 = .ok (.imul, 1) := by decide +kernel
theorem dMO_rootOf_9 : decode cMO_rootOf 9 = .ok (.iload_n 0, 1) := by decide +kernel
theorem dMO_rootOf_10 : decode cMO_rootOf 10 = .ok (.if_icmp .gt 9, 3) := by decide +kernel
theorem dMO_rootOf_13 : decode cMO_rootOf 13 = .ok (.iinc 1 1, 3) := by decide +kernel
theorem dMO_rootOf_16 : decode cMO_rootOf 16 = .ok (.goto (-14), 3) := by decide +kernel
theorem dMO_rootOf_19 : decode cMO_rootOf 19 = .ok (.iload_n 1, 1) := by decide +kernel
theorem dMO_rootOf_20 : decode cMO_rootOf 20 = .ok (.ireturn, 1) := by decide +kernel
theorem dMO_distance_0 : decode cMO_distance 0 = .ok (.iload_n 3, 1) := by decide +kernel
theorem dMO_distance_1 : decode cMO_distance 1 = .ok (.bipush 12, 2) := by decide +kernel
theorem dMO_distance_3 : decode cMO_distance 3 = .ok (.irem, 1) := by decide +kernel
theorem dMO_distance_4 : decode cMO_distance 4 = .ok (.iload_n 1, 1) := by decide +kernel
theorem dMO_distance_5 : decode cMO_distance 5 = .ok (.isub, 1) := by decide +kernel
theorem dMO_distance_6 : decode cMO_distance 6 = .ok (.istore 4, 2) := by decide +kernel
theorem dMO_distance_8 : decode cMO_distance 8 = .ok (.iload_n 3, 1) := by decide +kernel
theorem dMO_distance_9 : decode cMO_distance 9 = .ok (.bipush 12, 2) := by decide +kernel
theorem dMO_distance_11 : decode cMO_distance 11 = .ok (.idiv, 1) := by decide +kernel
theorem dMO_distance_12 : decode cMO_distance 12 = .ok (.iload_n 2, 1) := by decide +kernel
theorem dMO_distance_13 : decode cMO_distance 13 = .ok (.isub, 1) := by decide +kernel
theorem dMO_distance_14 : decode cMO_distance 14 = .ok (.istore 5, 2) := by decide +kernel
theorem dMO_distance_16 : decode cMO_distance 16 = .ok (.iload 4, 2) := by decide +kernel
theorem dMO_distance_18 : decode cMO_distance 18 = .ok (.iload 4, 2) := by decide +kernel
theorem dMO_distance_20 : decode cMO_distance 20 = .ok (.imul, 1) := by decide +kernel
theorem dMO_distance_21 : decode cMO_distance 21 = .ok (.iload 5, 2) := by decide +kernel
theorem dMO_distance_23 : decode cMO_distance 23 = .ok (.iload 5, 2) := by decide +kernel
theorem dMO_distance_25 : decode cMO_distance 25 = .ok (.imul, 1) := by decide +kernel
theorem dMO_distance_26 : decode cMO_distance 26 = .ok (.iadd, 1) := by decide +kernel
theorem dMO_distance_27 : decode cMO_distance 27 = .ok (.ireturn, 1) := by decide +kernel
theorem dMO_isNear_0 : decode cMO_isNear 0 = .ok (.aload_n 0, 1) := by decide +kernel
theorem dMO_isNear_1 : decode cMO_isNear 1 = .ok (.iload_n 3, 1) := by decide +kernel
theorem dMO_isNear_2 : decode cMO_isNear 2 = .ok (.bipush 12, 2) := by decide +kernel
theorem dMO_isNear_4 : decode cMO_isNear 4 = .ok (.irem, 1) := by decide +kernel
theorem dMO_isNear_5 : decode cMO_isNear 5 = .ok (.iload_n 3, 1) := by decide +kernel
theorem dMO_isNear_6 : decode cMO_isNear 6 = .ok (.bipush 12, 2) := by decide +kernel
theorem dMO_isNear_8 : decode cMO_isNear 8 = .ok (.idiv, 1) := by decide +kernel
theorem dMO_isNear_9 : decode cMO_isNear 9 = .ok (.invokevirtual 70, 3) := by decide +kernel
theorem dMO_isNear_12 : decode cMO_isNear 12 = .ok (.ifCond .eq 26, 3) := by decide +kernel
theorem dMO_isNear_15 : decode cMO_isNear 15 = .ok (.aload_n 0, 1) := by decide +kernel
theorem dMO_isNear_16 : decode cMO_isNear 16 = .ok (.iload_n 1, 1) := by decide +kernel
theorem dMO_isNear_17 : decode cMO_isNear 17 = .ok (.iload_n 2, 1) := by decide +kernel
theorem dMO_isNear_18 : decode cMO_isNear 18 = .ok (.iload_n 3, 1) := by decide +kernel
theorem dMO_isNear_19 : decode cMO_isNear 19 = .ok (.invokevirtual 74, 3) := by decide +kernel
theorem dMO_isNear_22 : decode cMO_isNear 22 = .ok (.aload_n 0, 1) := by decide +kernel
theorem dMO_isNear_23 : decode cMO_isNear 23 = .ok (.getfield 52, 3) := by decide +kernel
theorem dMO_isNear_26 : decode cMO_isNear 26 = .ok (.aload_n 0, 1) := by decide +kernel
theorem dMO_isNear_27 : decode cMO_isNear 27 = .ok (.getfield 52, 3) := by decide +kernel
theorem dMO_isNear_30 : decode cMO_isNear 30 = .ok (.imul, 1) := by decide +kernel
theorem dMO_isNear_31 : decode cMO_isNear 31 = .ok (.if_icmp .gt 7, 3) := by decide +kernel
theorem dMO_isNear_34 : decode cMO_isNear 34 = .ok (.iconst 1, 1) := by decide +kernel
theorem dMO_isNear_35 : decode cMO_isNear 35 = .ok (.goto 4, 3) := by decide +kernel
theorem dMO_isNear_38 : decode cMO_isNear 38 = .ok (.iconst 0, 1) := by decide +kernel
theorem dMO_isNear_39 : decode cMO_isNear 39 = .ok (.ireturn, 1) := by decide +kernel
theorem dMO_restAt_0 : decode cMO_restAt 0 = .ok (.aload_n 0, 1) := by decide +kernel
theorem dMO_restAt_1 : decode cMO_restAt 1 = .ok (.iload_n 1, 1) := by decide +kernel
theorem dMO_restAt_2 : decode cMO_restAt 2 = .ok (.iload_n 2, 1) := by decide +kernel
theorem dMO_restAt_3 : decode cMO_restAt 3 = .ok (.invokevirtual 78, 3) := by decide +kernel
theorem dMO_restAt_6 : decode cMO_restAt 6 = .ok (.istore_n 3, 1) := by decide +kernel
theorem dMO_restAt_7 : decode cMO_restAt 7 = .ok (.aload_n 0, 1) := by decide +kernel
theorem dMO_restAt_8 : decode cMO_restAt 8 = .ok (.getfield 29, 3) := by decide +kernel
theorem dMO_restAt_11 : decode cMO_restAt 11 = .ok (.iload_n 3, 1) := by decide +kernel
theorem dMO_restAt_12 : decode cMO_restAt 12 = .ok (.iconst 0, 1) := by decide +kernel
theorem dMO_restAt_13 : decode cMO_restAt 13 = .ok (.iastore, 1) := by decide +kernel
theorem dMO_restAt_14 : decode cMO_restAt 14 = .ok (.aload_n 0, 1) := by decide +kernel
theorem dMO_restAt_15 : decode cMO_restAt 15 = .ok (.getfield 32, 3) := by decide +kernel
theorem dMO_restAt_18 : decode cMO_restAt 18 = .ok (.iload_n 3, 1) := by decide +kernel
theorem dMO_restAt_19 : decode cMO_restAt 19 = .ok (.aload_n 0, 1) := by decide +kernel
theorem dMO_restAt_20 : decode cMO_restAt 20 = .ok (.getfield 52, 3) := by decide +kernel
theorem dMO_restAt_23 : decode cMO_restAt 23 = .ok (.aload_n 0, 1) := by decide +kernel
theorem dMO_restAt_24 : decode cMO_restAt 24 = .ok (.getfield 52, 3) := by decide +kernel
theorem dMO_restAt_27 : decode cMO_restAt 27 = .ok (.imul, 1) := by decide +kernel
theorem dMO_restAt_28 : decode cMO_restAt 28 = .ok (.iastore, 1) := by decide +kernel
theorem dMO_restAt_29 : decode cMO_restAt 29 = .ok (.iconst 0, 1) := by decide +kernel
theorem dMO_restAt_30 : decode cMO_restAt 30 = .ok (.istore 4, 2) := by decide +kernel
theorem dMO_restAt_32 : decode cMO_restAt 32 = .ok (.iload 4, 2) := by decide +kernel
theorem dMO_restAt_34 : decode cMO_restAt 34 = .ok (.sipush 144, 3) := by decide +kernel
theorem dMO_restAt_37 : decode cMO_restAt 37 = .ok (.if_icmp .ge 88, 3) := by decide +kernel
theorem dMO_restAt_40 : decode cMO_restAt 40 = .ok (.aload_n 0, 1) := by decide +kernel
theorem dMO_restAt_41 : decode cMO_restAt 41 = .ok (.iload_n 1, 1) := by decide +kernel
theorem dMO_restAt_42 : decode cMO_restAt 42 = .ok (.iload_n 2, 1) := by decide +kernel
theorem dMO_restAt_43 : decode cMO_restAt 43 = .ok (.iload 4, 2) := by decide +kernel
theorem dMO_restAt_45 : decode cMO_restAt 45 = .ok (.invokevirtual 81, 3) := by decide +kernel
theorem dMO_restAt_48 : decode cMO_restAt 48 = .ok (.ifCond .eq 71, 3) := by decide +kernel
theorem dMO_restAt_51 : decode cMO_restAt 51 = .ok (.aload_n 0, 1) := by decide +kernel
theorem dMO_restAt_52 : decode cMO_restAt 52 = .ok (.getfield 52, 3) := by decide +kernel
theorem dMO_restAt_55 : decode cMO_restAt 55 = .ok (.aload_n 0, 1) := by decide +kernel
theorem dMO_restAt_56 : decode cMO_restAt 56 = .ok (.getfield 52, 3) := by decide +kernel
theorem dMO_restAt_59 : decode cMO_restAt 59 = .ok (.imul, 1) := by decide +kernel
theorem dMO_restAt_60 : decode cMO_restAt 60 = .ok (.aload_n 0, 1) := by decide +kernel
theorem dMO_restAt_61 : decode cMO_restAt 61 = .ok (.iload_n 1, 1) := by decide +kernel
theorem dMO_restAt_62 : decode cMO_restAt 62 = .ok (.iload_n 2, 1) := by decide +kernel
theorem dMO_restAt_63 : decode cMO_restAt 63 = .ok (.iload 4, 2) := by decide +kernel
theorem dMO_restAt_65 : decode cMO_restAt 65 = .ok (.invokevirtual 74, 3) := by decide +kernel
theorem dMO_restAt_68 : decode cMO_restAt 68 = .ok (.isub, 1) := by decide +kernel
theorem dMO_restAt_69 : decode cMO_restAt 69 = .ok (.istore 5, 2) := by decide +kernel
theorem dMO_restAt_71 : decode cMO_restAt 71 = .ok (.aload_n 0, 1) := by decide +kernel
theorem dMO_restAt_72 : decode cMO_restAt 72 = .ok (.getfield 16, 3) := by decide +kernel
theorem dMO_restAt_75 : decode cMO_restAt 75 = .ok (.iload 4, 2) := by decide +kernel
theorem dMO_restAt_77 : decode cMO_restAt 77 = .ok (.iaload, 1) := by decide +kernel
theorem dMO_restAt_78 : decode cMO_restAt 78 = .ok (.iload 5, 2) := by decide +kernel
theorem dMO_restAt_80 : decode cMO_restAt 80 = .ok (.aload_n 0, 1) := by decide +kernel
theorem dMO_restAt_81 : decode cMO_restAt 81 = .ok (.getfield 29, 3) := by decide +kernel
theorem dMO_restAt_84 : decode cMO_restAt 84 = .ok (.iload_n 3, 1) := by decide +kernel
theorem dMO_restAt_85 : decode cMO_restAt 85 = .ok (.iaload, 1) := by decide +kernel
theorem dMO_restAt_86 : decode cMO_restAt 86 = .ok (.aload_n 0, 1) := by decide +kernel
theorem dMO_restAt_87 : decode cMO_restAt 87 = .ok (.getfield 32, 3) := by decide +kernel
theorem dMO_restAt_90 : decode cMO_restAt 90 = .ok (.iload_n 3, 1) := by decide +kernel
theorem dMO_restAt_91 : decode cMO_restAt 91 = .ok (.iaload, 1) := by decide +kernel
theorem dMO_restAt_92 : decode cMO_restAt 92 = .ok (.invokestatic 66, 3) := by decide +kernel
theorem dMO_restAt_95 : decode cMO_restAt 95 = .ok (.ifCond .le 24, 3) := by decide +kernel
theorem dMO_restAt_98 : decode cMO_restAt 98 = .ok (.aload_n 0, 1) := by decide +kernel
theorem dMO_restAt_99 : decode cMO_restAt 99 = .ok (.getfield 29, 3) := by decide +kernel
theorem dMO_restAt_102 : decode cMO_restAt 102 = .ok (.iload_n 3, 1) := by decide +kernel
theorem dMO_restAt_103 : decode cMO_restAt 103 = .ok (.aload_n 0, 1) := by decide +kernel
theorem dMO_restAt_104 : decode cMO_restAt 104 = .ok (.getfield 16, 3) := by decide +kernel
theorem dMO_restAt_107 : decode cMO_restAt 107 = .ok (.iload 4, 2) := by decide +kernel
theorem dMO_restAt_109 : decode cMO_restAt 109 = .ok (.iaload, 1) := by decide +kernel
theorem dMO_restAt_110 : decode cMO_restAt 110 = .ok (.iastore, 1) := by decide +kernel
theorem dMO_restAt_111 : decode cMO_restAt 111 = .ok (.aload_n 0, 1) := by decide +kernel
theorem dMO_restAt_112 : decode cMO_restAt 112 = .ok (.getfield 32, 3) := by decide +kernel
theorem dMO_restAt_115 : decode cMO_restAt 115 = .ok (.iload_n 3, 1) := by decide +kernel
theorem dMO_restAt_116 : decode cMO_restAt 116 = .ok (.iload 5, 2) := by decide +kernel
theorem dMO_restAt_118 : decode cMO_restAt 118 = .ok (.iastore, 1) := by decide +kernel
theorem dMO_restAt_119 : decode cMO_restAt 119 = .ok (.iinc 4 1, 3) := by decide +kernel
theorem dMO_restAt_122 : decode cMO_restAt 122 = .ok (.goto (-90), 3) := by decide +kernel
theorem dMO_restAt_125 : decode cMO_restAt 125 = .ok (.return_, 1) := by decide +kernel
theorem dMO_isTouched_0 : decode cMO_isTouched 0 = .ok (.aload_n 0, 1) := by decide +kernel
theorem dMO_isTouched_1 : decode cMO_isTouched 1 = .ok (.iload_n 1, 1) := by decide +kernel
theorem dMO_isTouched_2 : decode cMO_isTouched 2 = .ok (.iload_n 2, 1) := by decide +kernel
theorem dMO_isTouched_3 : decode cMO_isTouched 3 = .ok (.invokevirtual 78, 3) := by decide +kernel
theorem dMO_isTouched_6 : decode cMO_isTouched 6 = .ok (.istore 4, 2) := by decide +kernel
theorem dMO_isTouched_8 : decode cMO_isTouched 8 = .ok (.aload_n 0, 1) := by decide +kernel
theorem dMO_isTouched_9 : decode cMO_isTouched 9 = .ok (.iload_n 1, 1) := by decide +kernel
theorem dMO_isTouched_10 : decode cMO_isTouched 10 = .ok (.iload_n 2, 1) := by decide +kernel
theorem dMO_isTouched_11 : decode cMO_isTouched 11 = .ok (.iload_n 3, 1) := by decide +kernel
theorem dMO_isTouched_12 : decode cMO_isTouched 12 = .ok (.invokevirtual 81, 3) := by decide +kernel
theorem dMO_isTouched_15 : decode cMO_isTouched 15 = .ok (.ifCond .eq 50, 3) := by decide +kernel
theorem dMO_isTouched_18 : decode cMO_isTouched 18 = .ok (.aload_n 0, 1) := by decide +kernel
theorem dMO_isTouched_19 : decode cMO_isTouched 19 = .ok (.getfield 16, 3) := by decide +kernel
theorem dMO_isTouched_22 : decode cMO_isTouched 22 = .ok (.iload_n 3, 1) := by decide +kernel
theorem dMO_isTouched_23 : decode cMO_isTouched 23 = .ok (.iaload, 1) := by decide +kernel
theorem dMO_isTouched_24 : decode cMO_isTouched 24 = .ok (.aload_n 0, 1) := by decide +kernel
theorem dMO_isTouched_25 : decode cMO_isTouched 25 = .ok (.getfield 52, 3) := by decide +kernel
theorem dMO_isTouched_28 : decode cMO_isTouched 28 = .ok (.aload_n 0, 1) := by decide +kernel
theorem dMO_isTouched_29 : decode cMO_isTouched 29 = .ok (.getfield 52, 3) := by decide +kernel
theorem dMO_isTouched_32 : decode cMO_isTouched 32 = .ok (.imul, 1) := by decide +kernel
theorem dMO_isTouched_33 : decode cMO_isTouched 33 = .ok (.aload_n 0, 1) := by decide +kernel
theorem dMO_isTouched_34 : decode cMO_isTouched 34 = .ok (.iload_n 1, 1) := by decide +kernel
theorem dMO_isTouched_35 : decode cMO_isTouched 35 = .ok (.iload_n 2, 1) := by decide +kernel
theorem dMO_isTouched_36 : decode cMO_isTouched 36 = .ok (.iload_n 3, 1) := by decide +kernel
theorem dMO_isTouched_37 : decode cMO_isTouched 37 = .ok (.invokevirtual 74, 3) := by decide +kernel
theorem dMO_isTouched_40 : decode cMO_isTouched 40 = .ok (.isub, 1) := by decide +kernel
theorem dMO_isTouched_41 : decode cMO_isTouched 41 = .ok (.aload_n 0, 1) := by decide +kernel
theorem dMO_isTouched_42 : decode cMO_isTouched 42 = .ok (.getfield 29, 3) := by decide +kernel
theorem dMO_isTouched_45 : decode cMO_isTouched 45 = .ok (.iload 4, 2) := by decide +kernel
theorem dMO_isTouched_47 : decode cMO_isTouched 47 = .ok (.iaload, 1) := by decide +kernel
theorem dMO_isTouched_48 : decode cMO_isTouched 48 = .ok (.aload_n 0, 1) := by decide +kernel
theorem dMO_isTouched_49 : decode cMO_isTouched 49 = .ok (.getfield 32, 3) := by decide +kernel
theorem dMO_isTouched_52 : decode cMO_isTouched 52 = .ok (.iload 4, 2) := by decide +kernel
theorem dMO_isTouched_54 : decode cMO_isTouched 54 = .ok (.iaload, 1) := by decide +kernel
theorem dMO_isTouched_55 : decode cMO_isTouched 55 = .ok (.invokestatic 66, 3) := by decide +kernel
theorem dMO_isTouched_58 : decode cMO_isTouched 58 = .ok (.ifCond .ne 7, 3) := by decide +kernel
theorem dMO_isTouched_61 : decode cMO_isTouched 61 = .ok (.iconst 1, 1) := by decide +kernel
theorem dMO_isTouched_62 : decode cMO_isTouched 62 = .ok (.goto 4, 3) := by decide +kernel
theorem dMO_isTouched_65 : decode cMO_isTouched 65 = .ok (.iconst 0, 1) := by decide +kernel
theorem dMO_isTouched_66 : decode cMO_isTouched 66 = .ok (.ireturn, 1) := by decide +kernel
theorem dMO_stand_0 : decode cMO_stand 0 = .ok (.iconst 0, 1) := by decide +kernel
theorem dMO_stand_1 : decode cMO_stand 1 = .ok (.istore_n 1, 1) := by decide +kernel
theorem dMO_stand_2 : decode cMO_stand 2 = .ok (.iload_n 1, 1) := by decide +kernel
theorem dMO_stand_3 : decode cMO_stand 3 = .ok (.sipush 144, 3) := by decide +kernel
theorem dMO_stand_6 : decode cMO_stand 6 = .ok (.if_icmp .ge 28, 3) := by decide +kernel
theorem dMO_stand_9 : decode cMO_stand 9 = .ok (.aload_n 0, 1) := by decide +kernel
theorem dMO_stand_10 : decode cMO_stand 10 = .ok (.getfield 16, 3) := by decide +kernel
theorem dMO_stand_13 : decode cMO_stand 13 = .ok (.iload_n 1, 1) := by decide +kernel
theorem dMO_stand_14 : decode cMO_stand 14 = .ok (.aload_n 0, 1) := by decide +kernel
theorem dMO_stand_15 : decode cMO_stand 15 = .ok (.getfield 7, 3) := by decide +kernel
theorem dMO_stand_18 : decode cMO_stand 18 = .ok (.iload_n 1, 1) := by decide +kernel
theorem dMO_stand_19 : decode cMO_stand 19 = .ok (.iaload, 1) := by decide +kernel
theorem dMO_stand_20 : decode cMO_stand 20 = .ok (.aload_n 0, 1) := by decide +kernel
theorem dMO_stand_21 : decode cMO_stand 21 = .ok (.getfield 13, 3) := by decide +kernel
theorem dMO_stand_24 : decode cMO_stand 24 = .ok (.iload_n 1, 1) := by decide +kernel
theorem dMO_stand_25 : decode cMO_stand 25 = .ok (.iaload, 1) := by decide +kernel
theorem dMO_stand_26 : decode cMO_stand 26 = .ok (.iadd, 1) := by decide +kernel
theorem dMO_stand_27 : decode cMO_stand 27 = .ok (.iastore, 1) := by decide +kernel
theorem dMO_stand_28 : decode cMO_stand 28 = .ok (.iinc 1 1, 3) := by decide +kernel
theorem dMO_stand_31 : decode cMO_stand 31 = .ok (.goto (-29), 3) := by decide +kernel
theorem dMO_stand_34 : decode cMO_stand 34 = .ok (.return_, 1) := by decide +kernel
theorem dMO_roll_0 : decode cMO_roll 0 = .ok (.iconst 0, 1) := by decide +kernel
theorem dMO_roll_1 : decode cMO_roll 1 = .ok (.istore_n 1, 1) := by decide +kernel
theorem dMO_roll_2 : decode cMO_roll 2 = .ok (.iload_n 1, 1) := by decide +kernel
theorem dMO_roll_3 : decode cMO_roll 3 = .ok (.sipush 144, 3) := by decide +kernel
theorem dMO_roll_6 : decode cMO_roll 6 = .ok (.if_icmp .ge 16, 3) := by decide +kernel
theorem dMO_roll_9 : decode cMO_roll 9 = .ok (.aload_n 0, 1) := by decide +kernel
theorem dMO_roll_10 : decode cMO_roll 10 = .ok (.getfield 35, 3) := by decide +kernel
theorem dMO_roll_13 : decode cMO_roll 13 = .ok (.iload_n 1, 1) := by decide +kernel
theorem dMO_roll_14 : decode cMO_roll 14 = .ok (.iconst 0, 1) := by decide +kernel
theorem dMO_roll_15 : decode cMO_roll 15 = .ok (.iastore, 1) := by decide +kernel
theorem dMO_roll_16 : decode cMO_roll 16 = .ok (.iinc 1 1, 3) := by decide +kernel
theorem dMO_roll_19 : decode cMO_roll 19 = .ok (.goto (-17), 3) := by decide +kernel
theorem dMO_roll_22 : decode cMO_roll 22 = .ok (.aload_n 0, 1) := by decide +kernel
theorem dMO_roll_23 : decode cMO_roll 23 = .ok (.getfield 52, 3) := by decide +kernel
theorem dMO_roll_26 : decode cMO_roll 26 = .ok (.ineg, 1) := by decide +kernel
theorem dMO_roll_27 : decode cMO_roll 27 = .ok (.istore_n 1, 1) := by decide +kernel
theorem dMO_roll_28 : decode cMO_roll 28 = .ok (.iload_n 1, 1) := by decide +kernel
theorem dMO_roll_29 : decode cMO_roll 29 = .ok (.aload_n 0, 1) := by decide +kernel
theorem dMO_roll_30 : decode cMO_roll 30 = .ok (.getfield 49, 3) := by decide +kernel
theorem dMO_roll_33 : decode cMO_roll 33 = .ok (.aload_n 0, 1) := by decide +kernel
theorem dMO_roll_34 : decode cMO_roll 34 = .ok (.getfield 52, 3) := by decide +kernel
theorem dMO_roll_37 : decode cMO_roll 37 = .ok (.iadd, 1) := by decide +kernel
theorem dMO_roll_38 : decode cMO_roll 38 = .ok (.if_icmp .ge 79, 3) := by decide +kernel
theorem dMO_roll_41 : decode cMO_roll 41 = .ok (.aload_n 0, 1) := by decide +kernel
theorem dMO_roll_42 : decode cMO_roll 42 = .ok (.getfield 52, 3) := by decide +kernel
theorem dMO_roll_45 : decode cMO_roll 45 = .ok (.ineg, 1) := by decide +kernel
theorem dMO_roll_46 : decode cMO_roll 46 = .ok (.istore_n 2, 1) := by decide +kernel
theorem dMO_roll_47 : decode cMO_roll 47 = .ok (.iload_n 2, 1) := by decide +kernel
theorem dMO_roll_48 : decode cMO_roll 48 = .ok (.aload_n 0, 1) := by decide +kernel
theorem dMO_roll_49 : decode cMO_roll 49 = .ok (.getfield 45, 3) := by decide +kernel
theorem dMO_roll_52 : decode cMO_roll 52 = .ok (.aload_n 0, 1) := by decide +kernel
theorem dMO_roll_53 : decode cMO_roll 53 = .ok (.getfield 52, 3) := by decide +kernel
theorem dMO_roll_56 : decode cMO_roll 56 = .ok (.iadd, 1) := by decide +kernel
theorem dMO_roll_57 : decode cMO_roll 57 = .ok (.if_icmp .ge 54, 3) := by decide +kernel
theorem dMO_roll_60 : decode cMO_roll 60 = .ok (.aload_n 0, 1) := by decide +kernel
theorem dMO_roll_61 : decode cMO_roll 61 = .ok (.iload_n 2, 1) := by decide +kernel
theorem dMO_roll_62 : decode cMO_roll 62 = .ok (.iload_n 1, 1) := by decide +kernel
theorem dMO_roll_63 : decode cMO_roll 63 = .ok (.invokevirtual 84, 3) := by decide +kernel
theorem dMO_roll_66 : decode cMO_roll 66 = .ok (.iconst 0, 1) := by decide +kernel
theorem dMO_roll_67 : decode cMO_roll 67 = .ok (.istore_n 3, 1) := by decide +kernel
theorem dMO_roll_68 : decode cMO_roll 68 = .ok (.iload_n 3, 1) := by decide +kernel
theorem dMO_roll_69 : decode cMO_roll 69 = .ok (.sipush 144, 3) := by decide +kernel
theorem dMO_roll_72 : decode cMO_roll 72 = .ok (.if_icmp .ge 33, 3) := by decide +kernel
theorem dMO_roll_75 : decode cMO_roll 75 = .ok (.aload_n 0, 1) := by decide +kernel
theorem dMO_roll_76 : decode cMO_roll 76 = .ok (.getfield 35, 3) := by decide +kernel
theorem dMO_roll_79 : decode cMO_roll 79 = .ok (.iload_n 3, 1) := by decide +kernel
theorem dMO_roll_80 : decode cMO_roll 80 = .ok (.dup2, 1) := by decide +kernel
theorem dMO_roll_81 : decode cMO_roll 81 = .ok (.iaload, 1) := by decide +kernel
theorem dMO_roll_82 : decode cMO_roll 82 = .ok (.aload_n 0, 1) := by decide +kernel
theorem dMO_roll_83 : decode cMO_roll 83 = .ok (.iload_n 2, 1) := by decide +kernel
theorem dMO_roll_84 : decode cMO_roll 84 = .ok (.iload_n 1, 1) := by decide +kernel
theorem dMO_roll_85 : decode cMO_roll 85 = .ok (.iload_n 3, 1) := by decide +kernel
theorem dMO_roll_86 : decode cMO_roll 86 = .ok (.invokevirtual 88, 3) := by decide +kernel
theorem dMO_roll_89 : decode cMO_roll 89 = .ok (.ifCond .eq 7, 3) := by decide +kernel
theorem dMO_roll_92 : decode cMO_roll 92 = .ok (.iconst 1, 1) := by decide +kernel
theorem dMO_roll_93 : decode cMO_roll 93 = .ok (.goto 4, 3) := by decide +kernel
theorem dMO_roll_96 : decode cMO_roll 96 = .ok (.iconst 0, 1) := by decide +kernel
theorem dMO_roll_97 : decode cMO_roll 97 = .ok (.iadd, 1) := by decide +kernel
theorem dMO_roll_98 : decode cMO_roll 98 = .ok (.iastore, 1) := by decide +kernel
theorem dMO_roll_99 : decode cMO_roll 99 = .ok (.iinc 3 1, 3) := by decide +kernel
theorem dMO_roll_102 : decode cMO_roll 102 = .ok (.goto (-34), 3) := by decide +kernel
theorem dMO_roll_105 : decode cMO_roll 105 = .ok (.iinc 2 1, 3) := by decide +kernel
theorem dMO_roll_108 : decode cMO_roll 108 = .ok (.goto (-61), 3) := by decide +kernel
theorem dMO_roll_111 : decode cMO_roll 111 = .ok (.iinc 1 1, 3) := by decide +kernel
theorem dMO_roll_114 : decode cMO_roll 114 = .ok (.goto (-86), 3) := by decide +kernel
theorem dMO_roll_117 : decode cMO_roll 117 = .ok (.return_, 1) := by decide +kernel
theorem dMO_height_0 : decode cMO_height 0 = .ok (.aload_n 0, 1) := by decide +kernel
theorem dMO_height_1 : decode cMO_height 1 = .ok (.aload_n 0, 1) := by decide +kernel
theorem dMO_height_2 : decode cMO_height 2 = .ok (.iload_n 1, 1) := by decide +kernel
theorem dMO_height_3 : decode cMO_height 3 = .ok (.iload_n 2, 1) := by decide +kernel
theorem dMO_height_4 : decode cMO_height 4 = .ok (.invokevirtual 70, 3) := by decide +kernel
theorem dMO_height_7 : decode cMO_height 7 = .ok (.ifCond .eq 18, 3) := by decide +kernel
theorem dMO_height_10 : decode cMO_height 10 = .ok (.iload_n 3, 1) := by decide +kernel
theorem dMO_height_11 : decode cMO_height 11 = .ok (.iconst 0, 1) := by decide +kernel
theorem dMO_height_12 : decode cMO_height 12 = .ok (.sipush 200, 3) := by decide +kernel
theorem dMO_height_15 : decode cMO_height 15 = .ok (.invokestatic 58, 3) := by decide +kernel
theorem dMO_height_18 : decode cMO_height 18 = .ok (.ifCond .eq 7, 3) := by decide +kernel
theorem dMO_height_21 : decode cMO_height 21 = .ok (.iconst 0, 1) := by decide +kernel
theorem dMO_height_22 : decode cMO_height 22 = .ok (.goto 4, 3) := by decide +kernel
theorem dMO_height_25 : decode cMO_height 25 = .ok (.iconst 1, 1) := by decide +kernel
theorem dMO_height_26 : decode cMO_height 26 = .ok (.putfield 55, 3) := by decide +kernel
theorem dMO_height_29 : decode cMO_height 29 = .ok (.aload_n 0, 1) := by decide +kernel
theorem dMO_height_30 : decode cMO_height 30 = .ok (.getfield 55, 3) := by decide +kernel
theorem dMO_height_33 : decode cMO_height 33 = .ok (.ifCond .le 5, 3) := by decide +kernel
theorem dMO_height_36 : decode cMO_height 36 = .ok (.iconst 0, 1) := by decide +kernel
theorem dMO_height_37 : decode cMO_height 37 = .ok (.ireturn, 1) := by decide +kernel
theorem dMO_height_38 : decode cMO_height 38 = .ok (.aload_n 0, 1) := by decide +kernel
theorem dMO_height_39 : decode cMO_height 39 = .ok (.getfield 7, 3) := by decide +kernel
theorem dMO_height_42 : decode cMO_height 42 = .ok (.iload_n 1, 1) := by decide +kernel
theorem dMO_height_43 : decode cMO_height 43 = .ok (.iload_n 2, 1) := by decide +kernel
theorem dMO_height_44 : decode cMO_height 44 = .ok (.invokestatic 91, 3) := by decide +kernel
theorem dMO_height_47 : decode cMO_height 47 = .ok (.iaload, 1) := by decide +kernel
theorem dMO_height_48 : decode cMO_height 48 = .ok (.istore 4, 2) := by decide +kernel
theorem dMO_height_50 : decode cMO_height 50 = .ok (.aload_n 0, 1) := by decide +kernel
theorem dMO_height_51 : decode cMO_height 51 = .ok (.getfield 7, 3) := by decide +kernel
theorem dMO_height_54 : decode cMO_height 54 = .ok (.iload_n 1, 1) := by decide +kernel
theorem dMO_height_55 : decode cMO_height 55 = .ok (.iload_n 2, 1) := by decide +kernel
theorem dMO_height_56 : decode cMO_height 56 = .ok (.invokestatic 91, 3) := by decide +kernel
theorem dMO_height_59 : decode cMO_height 59 = .ok (.iload_n 3, 1) := by decide +kernel
theorem dMO_height_60 : decode cMO_height 60 = .ok (.iastore, 1) := by decide +kernel
theorem dMO_height_61 : decode cMO_height 61 = .ok (.iload 4, 2) := by decide +kernel
theorem dMO_height_63 : decode cMO_height 63 = .ok (.ireturn, 1) := by decide +kernel
theorem dMO_rod_0 : decode cMO_rod 0 = .ok (.aload_n 0, 1) := by decide +kernel
theorem dMO_rod_1 : decode cMO_rod 1 = .ok (.aload_n 0, 1) := by decide +kernel
theorem dMO_rod_2 : decode cMO_rod 2 = .ok (.iload_n 1, 1) := by decide +kernel
theorem dMO_rod_3 : decode cMO_rod 3 = .ok (.iload_n 2, 1) := by decide +kernel
theorem dMO_rod_4 : decode cMO_rod 4 = .ok (.invokevirtual 70, 3) := by decide +kernel
theorem dMO_rod_7 : decode cMO_rod 7 = .ok (.ifCond .eq 17, 3) := by decide +kernel
theorem dMO_rod_10 : decode cMO_rod 10 = .ok (.iload_n 3, 1) := by decide +kernel
theorem dMO_rod_11 : decode cMO_rod 11 = .ok (.iconst 0, 1) := by decide +kernel
end
section
theorem dMO_rod_12 : decode cMO_rod 12 = .ok (.bipush 50, 2) := by decide +kernel
theorem dMO_rod_14 : decode cMO_rod 14 = .ok (.invokestatic 58, 3) := by decide +kernel
theorem dMO_rod_17 : decode cMO_rod 17 = .ok (.ifCond .eq 7, 3) := by decide +kernel
theorem dMO_rod_20 : decode cMO_rod 20 = .ok (.iconst 0, 1) := by decide +kernel
theorem dMO_rod_21 : decode cMO_rod 21 = .ok (.goto 4, 3) := by decide +kernel
theorem dMO_rod_24 : decode cMO_rod 24 = .ok (.iconst 1, 1) := by decide +kernel
theorem dMO_rod_25 : decode cMO_rod 25 = .ok (.putfield 55, 3) := by decide +kernel
theorem dMO_rod_28 : decode cMO_rod 28 = .ok (.aload_n 0, 1) := by decide +kernel
theorem dMO_rod_29 : decode cMO_rod 29 = .ok (.getfield 55, 3) := by decide +kernel
theorem dMO_rod_32 : decode cMO_rod 32 = .ok (.ifCond .le 5, 3) := by decide +kernel
theorem dMO_rod_35 : decode cMO_rod 35 = .ok (.iconst 0, 1) := by decide +kernel
theorem dMO_rod_36 : decode cMO_rod 36 = .ok (.ireturn, 1) := by decide +kernel
theorem dMO_rod_37 : decode cMO_rod 37 = .ok (.aload_n 0, 1) := by decide +kernel
theorem dMO_rod_38 : decode cMO_rod 38 = .ok (.getfield 13, 3) := by decide +kernel
theorem dMO_rod_41 : decode cMO_rod 41 = .ok (.iload_n 1, 1) := by decide +kernel
theorem dMO_rod_42 : decode cMO_rod 42 = .ok (.iload_n 2, 1) := by decide +kernel
theorem dMO_rod_43 : decode cMO_rod 43 = .ok (.invokestatic 91, 3) := by decide +kernel
theorem dMO_rod_46 : decode cMO_rod 46 = .ok (.iaload, 1) := by decide +kernel
theorem dMO_rod_47 : decode cMO_rod 47 = .ok (.istore 4, 2) := by decide +kernel
theorem dMO_rod_49 : decode cMO_rod 49 = .ok (.aload_n 0, 1) := by decide +kernel
theorem dMO_rod_50 : decode cMO_rod 50 = .ok (.getfield 13, 3) := by decide +kernel
theorem dMO_rod_53 : decode cMO_rod 53 = .ok (.iload_n 1, 1) := by decide +kernel
theorem dMO_rod_54 : decode cMO_rod 54 = .ok (.iload_n 2, 1) := by decide +kernel
theorem dMO_rod_55 : decode cMO_rod 55 = .ok (.invokestatic 91, 3) := by decide +kernel
theorem dMO_rod_58 : decode cMO_rod 58 = .ok (.iload_n 3, 1) := by decide +kernel
theorem dMO_rod_59 : decode cMO_rod 59 = .ok (.iastore, 1) := by decide +kernel
theorem dMO_rod_60 : decode cMO_rod 60 = .ok (.iload 4, 2) := by decide +kernel
theorem dMO_rod_62 : decode cMO_rod 62 = .ok (.ireturn, 1) := by decide +kernel
theorem dMO_rest_0 : decode cMO_rest 0 = .ok (.aload_n 0, 1) := by decide +kernel
theorem dMO_rest_1 : decode cMO_rest 1 = .ok (.aload_n 0, 1) := by decide +kernel
theorem dMO_rest_2 : decode cMO_rest 2 = .ok (.iload_n 1, 1) := by decide +kernel
theorem dMO_rest_3 : decode cMO_rest 3 = .ok (.iload_n 2, 1) := by decide +kernel
theorem dMO_rest_4 : decode cMO_rest 4 = .ok (.invokevirtual 94, 3) := by decide +kernel
theorem dMO_rest_7 : decode cMO_rest 7 = .ok (.ifCond .eq 16, 3) := by decide +kernel
theorem dMO_rest_10 : decode cMO_rest 10 = .ok (.iload_n 3, 1) := by decide +kernel
theorem dMO_rest_11 : decode cMO_rest 11 = .ok (.iconst 0, 1) := by decide +kernel
theorem dMO_rest_12 : decode cMO_rest 12 = .ok (.iconst 3, 1) := by decide +kernel
theorem dMO_rest_13 : decode cMO_rest 13 = .ok (.invokestatic 58, 3) := by decide +kernel
theorem dMO_rest_16 : decode cMO_rest 16 = .ok (.ifCond .eq 7, 3) := by decide +kernel
theorem dMO_rest_19 : decode cMO_rest 19 = .ok (.iconst 0, 1) := by decide +kernel
theorem dMO_rest_20 : decode cMO_rest 20 = .ok (.goto 4, 3) := by decide +kernel
theorem dMO_rest_23 : decode cMO_rest 23 = .ok (.iconst 1, 1) := by decide +kernel
theorem dMO_rest_24 : decode cMO_rest 24 = .ok (.putfield 55, 3) := by decide +kernel
theorem dMO_rest_27 : decode cMO_rest 27 = .ok (.aload_n 0, 1) := by decide +kernel
theorem dMO_rest_28 : decode cMO_rest 28 = .ok (.getfield 55, 3) := by decide +kernel
theorem dMO_rest_31 : decode cMO_rest 31 = .ok (.ifCond .le 5, 3) := by decide +kernel
theorem dMO_rest_34 : decode cMO_rest 34 = .ok (.iconst 0, 1) := by decide +kernel
theorem dMO_rest_35 : decode cMO_rest 35 = .ok (.ireturn, 1) := by decide +kernel
theorem dMO_rest_36 : decode cMO_rest 36 = .ok (.aload_n 0, 1) := by decide +kernel
theorem dMO_rest_37 : decode cMO_rest 37 = .ok (.invokevirtual 97, 3) := by decide +kernel
theorem dMO_rest_40 : decode cMO_rest 40 = .ok (.aload_n 0, 1) := by decide +kernel
theorem dMO_rest_41 : decode cMO_rest 41 = .ok (.iload_n 1, 1) := by decide +kernel
theorem dMO_rest_42 : decode cMO_rest 42 = .ok (.iload_n 2, 1) := by decide +kernel
theorem dMO_rest_43 : decode cMO_rest 43 = .ok (.invokevirtual 84, 3) := by decide +kernel
theorem dMO_rest_46 : decode cMO_rest 46 = .ok (.aload_n 0, 1) := by decide +kernel
theorem dMO_rest_47 : decode cMO_rest 47 = .ok (.iload_n 1, 1) := by decide +kernel
theorem dMO_rest_48 : decode cMO_rest 48 = .ok (.iload_n 2, 1) := by decide +kernel
theorem dMO_rest_49 : decode cMO_rest 49 = .ok (.invokevirtual 78, 3) := by decide +kernel
theorem dMO_rest_52 : decode cMO_rest 52 = .ok (.istore 4, 2) := by decide +kernel
theorem dMO_rest_54 : decode cMO_rest 54 = .ok (.aload_n 0, 1) := by decide +kernel
theorem dMO_rest_55 : decode cMO_rest 55 = .ok (.getfield 32, 3) := by decide +kernel
theorem dMO_rest_58 : decode cMO_rest 58 = .ok (.iload 4, 2) := by decide +kernel
theorem dMO_rest_60 : decode cMO_rest 60 = .ok (.iaload, 1) := by decide +kernel
theorem dMO_rest_61 : decode cMO_rest 61 = .ok (.invokestatic 100, 3) := by decide +kernel
theorem dMO_rest_64 : decode cMO_rest 64 = .ok (.istore 5, 2) := by decide +kernel
theorem dMO_rest_66 : decode cMO_rest 66 = .ok (.iconst 0, 1) := by decide +kernel
theorem dMO_rest_67 : decode cMO_rest 67 = .ok (.istore 6, 2) := by decide +kernel
theorem dMO_rest_69 : decode cMO_rest 69 = .ok (.iconst 0, 1) := by decide +kernel
theorem dMO_rest_70 : decode cMO_rest 70 = .ok (.istore 7, 2) := by decide +kernel
theorem dMO_rest_72 : decode cMO_rest 72 = .ok (.iload 7, 2) := by decide +kernel
theorem dMO_rest_74 : decode cMO_rest 74 = .ok (.sipush 144, 3) := by decide +kernel
theorem dMO_rest_77 : decode cMO_rest 77 = .ok (.if_icmp .ge 30, 3) := by decide +kernel
theorem dMO_rest_80 : decode cMO_rest 80 = .ok (.iload 6, 2) := by decide +kernel
theorem dMO_rest_82 : decode cMO_rest 82 = .ok (.aload_n 0, 1) := by decide +kernel
theorem dMO_rest_83 : decode cMO_rest 83 = .ok (.iload_n 1, 1) := by decide +kernel
theorem dMO_rest_84 : decode cMO_rest 84 = .ok (.iload_n 2, 1) := by decide +kernel
theorem dMO_rest_85 : decode cMO_rest 85 = .ok (.iload 7, 2) := by decide +kernel
theorem dMO_rest_87 : decode cMO_rest 87 = .ok (.invokevirtual 88, 3) := by decide +kernel
theorem dMO_rest_90 : decode cMO_rest 90 = .ok (.ifCond .eq 7, 3) := by decide +kernel
theorem dMO_rest_93 : decode cMO_rest 93 = .ok (.iconst 1, 1) := by decide +kernel
theorem dMO_rest_94 : decode cMO_rest 94 = .ok (.goto 4, 3) := by decide +kernel
theorem dMO_rest_97 : decode cMO_rest 97 = .ok (.iconst 0, 1) := by decide +kernel
theorem dMO_rest_98 : decode cMO_rest 98 = .ok (.iadd, 1) := by decide +kernel
theorem dMO_rest_99 : decode cMO_rest 99 = .ok (.istore 6, 2) := by decide +kernel
theorem dMO_rest_101 : decode cMO_rest 101 = .ok (.iinc 7 1, 3) := by decide +kernel
theorem dMO_rest_104 : decode cMO_rest 104 = .ok (.goto (-32), 3) := by decide +kernel
theorem dMO_rest_107 : decode cMO_rest 107 = .ok (.iload_n 3, 1) := by decide +kernel
theorem dMO_rest_108 : decode cMO_rest 108 = .ok (.tableswitch 63 0 2 #[28, 39, 60], 28) := by decide +kernel
theorem dMO_rest_136 : decode cMO_rest 136 = .ok (.aload_n 0, 1) := by decide +kernel
theorem dMO_rest_137 : decode cMO_rest 137 = .ok (.getfield 29, 3) := by decide +kernel
theorem dMO_rest_140 : decode cMO_rest 140 = .ok (.iload 4, 2) := by decide +kernel
theorem dMO_rest_142 : decode cMO_rest 142 = .ok (.iaload, 1) := by decide +kernel
theorem dMO_rest_143 : decode cMO_rest 143 = .ok (.iload 5, 2) := by decide +kernel
theorem dMO_rest_145 : decode cMO_rest 145 = .ok (.iadd, 1) := by decide +kernel
theorem dMO_rest_146 : decode cMO_rest 146 = .ok (.ireturn, 1) := by decide +kernel
theorem dMO_rest_147 : decode cMO_rest 147 = .ok (.iload 5, 2) := by decide +kernel
theorem dMO_rest_149 : decode cMO_rest 149 = .ok (.iload 5, 2) := by decide +kernel
theorem dMO_rest_151 : decode cMO_rest 151 = .ok (.imul, 1) := by decide +kernel
theorem dMO_rest_152 : decode cMO_rest 152 = .ok (.aload_n 0, 1) := by decide +kernel
theorem dMO_rest_153 : decode cMO_rest 153 = .ok (.getfield 32, 3) := by decide +kernel
theorem dMO_rest_156 : decode cMO_rest 156 = .ok (.iload 4, 2) := by decide +kernel
theorem dMO_rest_158 : decode cMO_rest 158 = .ok (.iaload, 1) := by decide +kernel
theorem dMO_rest_159 : decode cMO_rest 159 = .ok (.if_icmp .ne 7, 3) := by decide +kernel
theorem dMO_rest_162 : decode cMO_rest 162 = .ok (.iconst 1, 1) := by decide +kernel
theorem dMO_rest_163 : decode cMO_rest 163 = .ok (.goto 4, 3) := by decide +kernel
theorem dMO_rest_166 : decode cMO_rest 166 = .ok (.iconst 0, 1) := by decide +kernel
theorem dMO_rest_167 : decode cMO_rest 167 = .ok (.ireturn, 1) := by decide +kernel
theorem dMO_rest_168 : decode cMO_rest 168 = .ok (.iload 6, 2) := by decide +kernel
theorem dMO_rest_170 : decode cMO_rest 170 = .ok (.ireturn, 1) := by decide +kernel
theorem dMO_rest_171 : decode cMO_rest 171 = .ok (.aload_n 0, 1) := by decide +kernel
theorem dMO_rest_172 : decode cMO_rest 172 = .ok (.getfield 29, 3) := by decide +kernel
theorem dMO_rest_175 : decode cMO_rest 175 = .ok (.iload 4, 2) := by decide +kernel
theorem dMO_rest_177 : decode cMO_rest 177 = .ok (.iaload, 1) := by decide +kernel
theorem dMO_rest_178 : decode cMO_rest 178 = .ok (.aload_n 0, 1) := by decide +kernel
theorem dMO_rest_179 : decode cMO_rest 179 = .ok (.getfield 32, 3) := by decide +kernel
theorem dMO_rest_182 : decode cMO_rest 182 = .ok (.iload 4, 2) := by decide +kernel
theorem dMO_rest_184 : decode cMO_rest 184 = .ok (.iaload, 1) := by decide +kernel
theorem dMO_rest_185 : decode cMO_rest 185 = .ok (.iconst 0, 1) := by decide +kernel
theorem dMO_rest_186 : decode cMO_rest 186 = .ok (.aload_n 0, 1) := by decide +kernel
theorem dMO_rest_187 : decode cMO_rest 187 = .ok (.getfield 52, 3) := by decide +kernel
theorem dMO_rest_190 : decode cMO_rest 190 = .ok (.aload_n 0, 1) := by decide +kernel
theorem dMO_rest_191 : decode cMO_rest 191 = .ok (.getfield 52, 3) := by decide +kernel
theorem dMO_rest_194 : decode cMO_rest 194 = .ok (.imul, 1) := by decide +kernel
theorem dMO_rest_195 : decode cMO_rest 195 = .ok (.invokestatic 66, 3) := by decide +kernel
theorem dMO_rest_198 : decode cMO_rest 198 = .ok (.ifCond .ne 7, 3) := by decide +kernel
theorem dMO_rest_201 : decode cMO_rest 201 = .ok (.iconst 1, 1) := by decide +kernel
theorem dMO_rest_202 : decode cMO_rest 202 = .ok (.goto 4, 3) := by decide +kernel
theorem dMO_rest_205 : decode cMO_rest 205 = .ok (.iconst 0, 1) := by decide +kernel
theorem dMO_rest_206 : decode cMO_rest 206 = .ok (.ireturn, 1) := by decide +kernel
theorem dMO_touched_0 : decode cMO_touched 0 = .ok (.aload_n 0, 1) := by decide +kernel
theorem dMO_touched_1 : decode cMO_touched 1 = .ok (.aload_n 0, 1) := by decide +kernel
theorem dMO_touched_2 : decode cMO_touched 2 = .ok (.iload_n 1, 1) := by decide +kernel
theorem dMO_touched_3 : decode cMO_touched 3 = .ok (.iload_n 2, 1) := by decide +kernel
theorem dMO_touched_4 : decode cMO_touched 4 = .ok (.invokevirtual 94, 3) := by decide +kernel
theorem dMO_touched_7 : decode cMO_touched 7 = .ok (.ifCond .eq 11, 3) := by decide +kernel
theorem dMO_touched_10 : decode cMO_touched 10 = .ok (.iload_n 3, 1) := by decide +kernel
theorem dMO_touched_11 : decode cMO_touched 11 = .ok (.ifCond .lt 7, 3) := by decide +kernel
theorem dMO_touched_14 : decode cMO_touched 14 = .ok (.iconst 0, 1) := by decide +kernel
theorem dMO_touched_15 : decode cMO_touched 15 = .ok (.goto 4, 3) := by decide +kernel
theorem dMO_touched_18 : decode cMO_touched 18 = .ok (.iconst 1, 1) := by decide +kernel
theorem dMO_touched_19 : decode cMO_touched 19 = .ok (.putfield 55, 3) := by decide +kernel
theorem dMO_touched_22 : decode cMO_touched 22 = .ok (.aload_n 0, 1) := by decide +kernel
theorem dMO_touched_23 : decode cMO_touched 23 = .ok (.getfield 55, 3) := by decide +kernel
theorem dMO_touched_26 : decode cMO_touched 26 = .ok (.ifCond .le 5, 3) := by decide +kernel
theorem dMO_touched_29 : decode cMO_touched 29 = .ok (.iconst 0, 1) := by decide +kernel
theorem dMO_touched_30 : decode cMO_touched 30 = .ok (.ireturn, 1) := by decide +kernel
theorem dMO_touched_31 : decode cMO_touched 31 = .ok (.aload_n 0, 1) := by decide +kernel
theorem dMO_touched_32 : decode cMO_touched 32 = .ok (.invokevirtual 97, 3) := by decide +kernel
theorem dMO_touched_35 : decode cMO_touched 35 = .ok (.aload_n 0, 1) := by decide +kernel
theorem dMO_touched_36 : decode cMO_touched 36 = .ok (.iload_n 1, 1) := by decide +kernel
theorem dMO_touched_37 : decode cMO_touched 37 = .ok (.iload_n 2, 1) := by decide +kernel
theorem dMO_touched_38 : decode cMO_touched 38 = .ok (.invokevirtual 84, 3) := by decide +kernel
theorem dMO_touched_41 : decode cMO_touched 41 = .ok (.iconst 0, 1) := by decide +kernel
theorem dMO_touched_42 : decode cMO_touched 42 = .ok (.istore 4, 2) := by decide +kernel
theorem dMO_touched_44 : decode cMO_touched 44 = .ok (.iconst 0, 1) := by decide +kernel
theorem dMO_touched_45 : decode cMO_touched 45 = .ok (.istore 5, 2) := by decide +kernel
theorem dMO_touched_47 : decode cMO_touched 47 = .ok (.iload 5, 2) := by decide +kernel
theorem dMO_touched_49 : decode cMO_touched 49 = .ok (.sipush 144, 3) := by decide +kernel
theorem dMO_touched_52 : decode cMO_touched 52 = .ok (.if_icmp .ge 44, 3) := by decide +kernel
theorem dMO_touched_55 : decode cMO_touched 55 = .ok (.aload_n 0, 1) := by decide +kernel
theorem dMO_touched_56 : decode cMO_touched 56 = .ok (.iload_n 1, 1) := by decide +kernel
theorem dMO_touched_57 : decode cMO_touched 57 = .ok (.iload_n 2, 1) := by decide +kernel
theorem dMO_touched_58 : decode cMO_touched 58 = .ok (.iload 5, 2) := by decide +kernel
theorem dMO_touched_60 : decode cMO_touched 60 = .ok (.invokevirtual 88, 3) := by decide +kernel
theorem dMO_touched_63 : decode cMO_touched 63 = .ok (.ifCond .eq 27, 3) := by decide +kernel
theorem dMO_touched_66 : decode cMO_touched 66 = .ok (.iload 4, 2) := by decide +kernel
theorem dMO_touched_68 : decode cMO_touched 68 = .ok (.iload_n 3, 1) := by decide +kernel
theorem dMO_touched_69 : decode cMO_touched 69 = .ok (.if_icmp .ne 18, 3) := by decide +kernel
theorem dMO_touched_72 : decode cMO_touched 72 = .ok (.bipush 100, 2) := by decide +kernel
theorem dMO_touched_74 : decode cMO_touched 74 = .ok (.iload 5, 2) := by decide +kernel
theorem dMO_touched_76 : decode cMO_touched 76 = .ok (.bipush 12, 2) := by decide +kernel
theorem dMO_touched_78 : decode cMO_touched 78 = .ok (.idiv, 1) := by decide +kernel
theorem dMO_touched_79 : decode cMO_touched 79 = .ok (.imul, 1) := by decide +kernel
theorem dMO_touched_80 : decode cMO_touched 80 = .ok (.iload 5, 2) := by decide +kernel
theorem dMO_touched_82 : decode cMO_touched 82 = .ok (.bipush 12, 2) := by decide +kernel
theorem dMO_touched_84 : decode cMO_touched 84 = .ok (.irem, 1) := by decide +kernel
theorem dMO_touched_85 : decode cMO_touched 85 = .ok (.iadd, 1) := by decide +kernel
theorem dMO_touched_86 : decode cMO_touched 86 = .ok (.ireturn, 1) := by decide +kernel
theorem dMO_touched_87 : decode cMO_touched 87 = .ok (.iinc 4 1, 3) := by decide +kernel
theorem dMO_touched_90 : decode cMO_touched 90 = .ok (.iinc 5 1, 3) := by decide +kernel
theorem dMO_touched_93 : decode cMO_touched 93 = .ok (.goto (-46), 3) := by decide +kernel
theorem dMO_touched_96 : decode cMO_touched 96 = .ok (.iconst (-1), 1) := by decide +kernel
theorem dMO_touched_97 : decode cMO_touched 97 = .ok (.ireturn, 1) := by decide +kernel
theorem dMO_higher_0 : decode cMO_higher 0 = .ok (.aload_n 0, 1) := by decide +kernel
theorem dMO_higher_1 : decode cMO_higher 1 = .ok (.aload_n 0, 1) := by decide +kernel
theorem dMO_higher_2 : decode cMO_higher 2 = .ok (.iload_n 1, 1) := by decide +kernel
theorem dMO_higher_3 : decode cMO_higher 3 = .ok (.iload_n 2, 1) := by decide +kernel
theorem dMO_higher_4 : decode cMO_higher 4 = .ok (.invokevirtual 94, 3) := by decide +kernel
theorem dMO_higher_7 : decode cMO_higher 7 = .ok (.ifCond .eq 17, 3) := by decide +kernel
theorem dMO_higher_10 : decode cMO_higher 10 = .ok (.aload_n 0, 1) := by decide +kernel
theorem dMO_higher_11 : decode cMO_higher 11 = .ok (.iload_n 3, 1) := by decide +kernel
theorem dMO_higher_12 : decode cMO_higher 12 = .ok (.iload 4, 2) := by decide +kernel
theorem dMO_higher_14 : decode cMO_higher 14 = .ok (.invokevirtual 94, 3) := by decide +kernel
theorem dMO_higher_17 : decode cMO_higher 17 = .ok (.ifCond .eq 7, 3) := by decide +kernel
theorem dMO_higher_20 : decode cMO_higher 20 = .ok (.iconst 0, 1) := by decide +kernel
theorem dMO_higher_21 : decode cMO_higher 21 = .ok (.goto 4, 3) := by decide +kernel
theorem dMO_higher_24 : decode cMO_higher 24 = .ok (.iconst 1, 1) := by decide +kernel
theorem dMO_higher_25 : decode cMO_higher 25 = .ok (.putfield 55, 3) := by decide +kernel
theorem dMO_higher_28 : decode cMO_higher 28 = .ok (.aload_n 0, 1) := by decide +kernel
theorem dMO_higher_29 : decode cMO_higher 29 = .ok (.getfield 55, 3) := by decide +kernel
theorem dMO_higher_32 : decode cMO_higher 32 = .ok (.ifCond .le 5, 3) := by decide +kernel
theorem dMO_higher_35 : decode cMO_higher 35 = .ok (.iconst 0, 1) := by decide +kernel
theorem dMO_higher_36 : decode cMO_higher 36 = .ok (.ireturn, 1) := by decide +kernel
theorem dMO_higher_37 : decode cMO_higher 37 = .ok (.aload_n 0, 1) := by decide +kernel
theorem dMO_higher_38 : decode cMO_higher 38 = .ok (.invokevirtual 97, 3) := by decide +kernel
theorem dMO_higher_41 : decode cMO_higher 41 = .ok (.aload_n 0, 1) := by decide +kernel
theorem dMO_higher_42 : decode cMO_higher 42 = .ok (.iload_n 1, 1) := by decide +kernel
theorem dMO_higher_43 : decode cMO_higher 43 = .ok (.iload_n 2, 1) := by decide +kernel
theorem dMO_higher_44 : decode cMO_higher 44 = .ok (.invokevirtual 84, 3) := by decide +kernel
theorem dMO_higher_47 : decode cMO_higher 47 = .ok (.aload_n 0, 1) := by decide +kernel
theorem dMO_higher_48 : decode cMO_higher 48 = .ok (.iload_n 3, 1) := by decide +kernel
theorem dMO_higher_49 : decode cMO_higher 49 = .ok (.iload 4, 2) := by decide +kernel
theorem dMO_higher_51 : decode cMO_higher 51 = .ok (.invokevirtual 84, 3) := by decide +kernel
theorem dMO_higher_54 : decode cMO_higher 54 = .ok (.aload_n 0, 1) := by decide +kernel
theorem dMO_higher_55 : decode cMO_higher 55 = .ok (.iload_n 1, 1) := by decide +kernel
theorem dMO_higher_56 : decode cMO_higher 56 = .ok (.iload_n 2, 1) := by decide +kernel
theorem dMO_higher_57 : decode cMO_higher 57 = .ok (.invokevirtual 78, 3) := by decide +kernel
theorem dMO_higher_60 : decode cMO_higher 60 = .ok (.istore 5, 2) := by decide +kernel
theorem dMO_higher_62 : decode cMO_higher 62 = .ok (.aload_n 0, 1) := by decide +kernel
theorem dMO_higher_63 : decode cMO_higher 63 = .ok (.iload_n 3, 1) := by decide +kernel
theorem dMO_higher_64 : decode cMO_higher 64 = .ok (.iload 4, 2) := by decide +kernel
theorem dMO_higher_66 : decode cMO_higher 66 = .ok (.invokevirtual 78, 3) := by decide +kernel
theorem dMO_higher_69 : decode cMO_higher 69 = .ok (.istore 6, 2) := by decide +kernel
theorem dMO_higher_71 : decode cMO_higher 71 = .ok (.aload_n 0, 1) := by decide +kernel
theorem dMO_higher_72 : decode cMO_higher 72 = .ok (.getfield 29, 3) := by decide +kernel
theorem dMO_higher_75 : decode cMO_higher 75 = .ok (.iload 5, 2) := by decide +kernel
theorem dMO_higher_77 : decode cMO_higher 77 = .ok (.iaload, 1) := by decide +kernel
theorem dMO_higher_78 : decode cMO_higher 78 = .ok (.aload_n 0, 1) := by decide +kernel
theorem dMO_higher_79 : decode cMO_higher 79 = .ok (.getfield 32, 3) := by decide +kernel
theorem dMO_higher_82 : decode cMO_higher 82 = .ok (.iload 5, 2) := by decide +kernel
theorem dMO_higher_84 : decode cMO_higher 84 = .ok (.iaload, 1) := by decide +kernel
theorem dMO_higher_85 : decode cMO_higher 85 = .ok (.aload_n 0, 1) := by decide +kernel
theorem dMO_higher_86 : decode cMO_higher 86 = .ok (.getfield 29, 3) := by decide +kernel
theorem dMO_higher_89 : decode cMO_higher 89 = .ok (.iload 6, 2) := by decide +kernel
theorem dMO_higher_91 : decode cMO_higher 91 = .ok (.iaload, 1) := by decide +kernel
theorem dMO_higher_92 : decode cMO_higher 92 = .ok (.aload_n 0, 1) := by decide +kernel
theorem dMO_higher_93 : decode cMO_higher 93 = .ok (.getfield 32, 3) := by decide +kernel
theorem dMO_higher_96 : decode cMO_higher 96 = .ok (.iload 6, 2) := by decide +kernel
theorem dMO_higher_98 : decode cMO_higher 98 = .ok (.iaload, 1) := by decide +kernel
theorem dMO_higher_99 : decode cMO_higher 99 = .ok (.invokestatic 66, 3) := by decide +kernel
theorem dMO_higher_102 : decode cMO_higher 102 = .ok (.ireturn, 1) := by decide +kernel
theorem dMO_tops_0 : decode cMO_tops 0 = .ok (.aload_n 0, 1) := by decide +kernel
theorem dMO_tops_1 : decode cMO_tops 1 = .ok (.iconst 0, 1) := by decide +kernel
theorem dMO_tops_2 : decode cMO_tops 2 = .ok (.putfield 55, 3) := by decide +kernel
theorem dMO_tops_5 : decode cMO_tops 5 = .ok (.aload_n 0, 1) := by decide +kernel
theorem dMO_tops_6 : decode cMO_tops 6 = .ok (.invokevirtual 97, 3) := by decide +kernel
theorem dMO_tops_9 : decode cMO_tops 9 = .ok (.aload_n 0, 1) := by decide +kernel
theorem dMO_tops_10 : decode cMO_tops 10 = .ok (.invokevirtual 104, 3) := by decide +kernel
theorem dMO_tops_13 : decode cMO_tops 13 = .ok (.iconst 0, 1) := by decide +kernel
theorem dMO_tops_14 : decode cMO_tops 14 = .ok (.istore_n 1, 1) := by decide +kernel
theorem dMO_tops_15 : decode cMO_tops 15 = .ok (.iconst 0, 1) := by decide +kernel
theorem dMO_tops_16 : decode cMO_tops 16 = .ok (.istore_n 2, 1) := by decide +kernel
theorem dMO_tops_17 : decode cMO_tops 17 = .ok (.iconst 0, 1) := by decide +kernel
theorem dMO_tops_18 : decode cMO_tops 18 = .ok (.istore_n 3, 1) := by decide +kernel
theorem dMO_tops_19 : decode cMO_tops 19 = .ok (.iload_n 3, 1) := by decide +kernel
theorem dMO_tops_20 : decode cMO_tops 20 = .ok (.aload_n 0, 1) := by decide +kernel
theorem dMO_tops_21 : decode cMO_tops 21 = .ok (.invokevirtual 107, 3) := by decide +kernel
theorem dMO_tops_24 : decode cMO_tops 24 = .ok (.if_icmp .ge 71, 3) := by decide +kernel
theorem dMO_tops_27 : decode cMO_tops 27 = .ok (.aload_n 0, 1) := by decide +kernel
theorem dMO_tops_28 : decode cMO_tops 28 = .ok (.getfield 29, 3) := by decide +kernel
theorem dMO_tops_31 : decode cMO_tops 31 = .ok (.iload_n 3, 1) := by decide +kernel
theorem dMO_tops_32 : decode cMO_tops 32 = .ok (.iaload, 1) := by decide +kernel
theorem dMO_tops_33 : decode cMO_tops 33 = .ok (.aload_n 0, 1) := by decide +kernel
theorem dMO_tops_34 : decode cMO_tops 34 = .ok (.getfield 32, 3) := by decide +kernel
theorem dMO_tops_37 : decode cMO_tops 37 = .ok (.iload_n 3, 1) := by decide +kernel
theorem dMO_tops_38 : decode cMO_tops 38 = .ok (.iaload, 1) := by decide +kernel
theorem dMO_tops_39 : decode cMO_tops 39 = .ok (.aload_n 0, 1) := by decide +kernel
theorem dMO_tops_40 : decode cMO_tops 40 = .ok (.getfield 29, 3) := by decide +kernel
theorem dMO_tops_43 : decode cMO_tops 43 = .ok (.iload_n 1, 1) := by decide +kernel
theorem dMO_tops_44 : decode cMO_tops 44 = .ok (.iaload, 1) := by decide +kernel
theorem dMO_tops_45 : decode cMO_tops 45 = .ok (.aload_n 0, 1) := by decide +kernel
theorem dMO_tops_46 : decode cMO_tops 46 = .ok (.getfield 32, 3) := by decide +kernel
theorem dMO_tops_49 : decode cMO_tops 49 = .ok (.iload_n 1, 1) := by decide +kernel
theorem dMO_tops_50 : decode cMO_tops 50 = .ok (.iaload, 1) := by decide +kernel
theorem dMO_tops_51 : decode cMO_tops 51 = .ok (.invokestatic 66, 3) := by decide +kernel
theorem dMO_tops_54 : decode cMO_tops 54 = .ok (.istore 4, 2) := by decide +kernel
theorem dMO_tops_56 : decode cMO_tops 56 = .ok (.iload 4, 2) := by decide +kernel
theorem dMO_tops_58 : decode cMO_tops 58 = .ok (.ifCond .le 7, 3) := by decide +kernel
theorem dMO_tops_61 : decode cMO_tops 61 = .ok (.iconst 1, 1) := by decide +kernel
theorem dMO_tops_62 : decode cMO_tops 62 = .ok (.goto 15, 3) := by decide +kernel
theorem dMO_tops_65 : decode cMO_tops 65 = .ok (.iload 4, 2) := by decide +kernel
theorem dMO_tops_67 : decode cMO_tops 67 = .ok (.ifCond .ne 9, 3) := by decide +kernel
theorem dMO_tops_70 : decode cMO_tops 70 = .ok (.iload_n 2, 1) := by decide +kernel
theorem dMO_tops_71 : decode cMO_tops 71 = .ok (.iconst 1, 1) := by decide +kernel
theorem dMO_tops_72 : decode cMO_tops 72 = .ok (.iadd, 1) := by decide +kernel
theorem dMO_tops_73 : decode cMO_tops 73 = .ok (.goto 4, 3) := by decide +kernel
theorem dMO_tops_76 : decode cMO_tops 76 = .ok (.iload_n 2, 1) := by decide +kernel
theorem dMO_tops_77 : decode cMO_tops 77 = .ok (.istore_n 2, 1) := by decide +kernel
theorem dMO_tops_78 : decode cMO_tops 78 = .ok (.iload 4, 2) := by decide +kernel
theorem dMO_tops_80 : decode cMO_tops 80 = .ok (.ifCond .le 7, 3) := by decide +kernel
theorem dMO_tops_83 : decode cMO_tops 83 = .ok (.iload_n 3, 1) := by decide +kernel
theorem dMO_tops_84 : decode cMO_tops 84 = .ok (.goto 4, 3) := by decide +kernel
theorem dMO_tops_87 : decode cMO_tops 87 = .ok (.iload_n 1, 1) := by decide +kernel
theorem dMO_tops_88 : decode cMO_tops 88 = .ok (.istore_n 1, 1) := by decide +kernel
theorem dMO_tops_89 : decode cMO_tops 89 = .ok (.iinc 3 1, 3) := by decide +kernel
theorem dMO_tops_92 : decode cMO_tops 92 = .ok (.goto (-73), 3) := by decide +kernel
theorem dMO_tops_95 : decode cMO_tops 95 = .ok (.iload_n 2, 1) := by decide +kernel
theorem dMO_tops_96 : decode cMO_tops 96 = .ok (.ireturn, 1) := by decide +kernel
theorem dMO_hits_0 : decode cMO_hits 0 = .ok (.aload_n 0, 1) := by decide +kernel
theorem dMO_hits_1 : decode cMO_hits 1 = .ok (.aload_n 0, 1) := by decide +kernel
theorem dMO_hits_2 : decode cMO_hits 2 = .ok (.iload_n 1, 1) := by decide +kernel
theorem dMO_hits_3 : decode cMO_hits 3 = .ok (.iload_n 2, 1) := by decide +kernel
theorem dMO_hits_4 : decode cMO_hits 4 = .ok (.invokevirtual 70, 3) := by decide +kernel
theorem dMO_hits_7 : decode cMO_hits 7 = .ok (.ifCond .eq 7, 3) := by decide +kernel
theorem dMO_hits_10 : decode cMO_hits 10 = .ok (.iconst 0, 1) := by decide +kernel
theorem dMO_hits_11 : decode cMO_hits 11 = .ok (.goto 4, 3) := by decide +kernel
theorem dMO_hits_14 : decode cMO_hits 14 = .ok (.iconst 1, 1) := by decide +kernel
theorem dMO_hits_15 : decode cMO_hits 15 = .ok (.putfield 55, 3) := by decide +kernel
theorem dMO_hits_18 : decode cMO_hits 18 = .ok (.aload_n 0, 1) := by decide +kernel
theorem dMO_hits_19 : decode cMO_hits 19 = .ok (.getfield 55, 3) := by decide +kernel
theorem dMO_hits_22 : decode cMO_hits 22 = .ok (.ifCond .le 5, 3) := by decide +kernel
theorem dMO_hits_25 : decode cMO_hits 25 = .ok (.iconst 0, 1) := by decide +kernel
theorem dMO_hits_26 : decode cMO_hits 26 = .ok (.ireturn, 1) := by decide +kernel
theorem dMO_hits_27 : decode cMO_hits 27 = .ok (.aload_n 0, 1) := by decide +kernel
theorem dMO_hits_28 : decode cMO_hits 28 = .ok (.invokevirtual 97, 3) := by decide +kernel
theorem dMO_hits_31 : decode cMO_hits 31 = .ok (.aload_n 0, 1) := by decide +kernel
theorem dMO_hits_32 : decode cMO_hits 32 = .ok (.invokevirtual 104, 3) := by decide +kernel
theorem dMO_hits_35 : decode cMO_hits 35 = .ok (.aload_n 0, 1) := by decide +kernel
theorem dMO_hits_36 : decode cMO_hits 36 = .ok (.getfield 35, 3) := by decide +kernel
theorem dMO_hits_39 : decode cMO_hits 39 = .ok (.iload_n 1, 1) := by decide +kernel
theorem dMO_hits_40 : decode cMO_hits 40 = .ok (.iload_n 2, 1) := by decide +kernel
theorem dMO_hits_41 : decode cMO_hits 41 = .ok (.invokestatic 91, 3) := by decide +kernel
theorem dMO_hits_44 : decode cMO_hits 44 = .ok (.iaload, 1) := by decide +kernel
theorem dMO_hits_45 : decode cMO_hits 45 = .ok (.ireturn, 1) := by decide +kernel
theorem dMO_isSafe_0 : decode cMO_isSafe 0 = .ok (.aload_n 0, 1) := by decide +kernel
theorem dMO_isSafe_1 : decode cMO_isSafe 1 = .ok (.iload_n 1, 1) := by decide +kernel
theorem dMO_isSafe_2 : decode cMO_isSafe 2 = .ok (.bipush 12, 2) := by decide +kernel
theorem dMO_isSafe_4 : decode cMO_isSafe 4 = .ok (.irem, 1) := by decide +kernel
theorem dMO_isSafe_5 : decode cMO_isSafe 5 = .ok (.iload_n 1, 1) := by decide +kernel
theorem dMO_isSafe_6 : decode cMO_isSafe 6 = .ok (.bipush 12, 2) := by decide +kernel
theorem dMO_isSafe_8 : decode cMO_isSafe 8 = .ok (.idiv, 1) := by decide +kernel
theorem dMO_isSafe_9 : decode cMO_isSafe 9 = .ok (.invokevirtual 70, 3) := by decide +kernel
theorem dMO_isSafe_12 : decode cMO_isSafe 12 = .ok (.ifCond .eq 16, 3) := by decide +kernel
theorem dMO_isSafe_15 : decode cMO_isSafe 15 = .ok (.aload_n 0, 1) := by decide +kernel
theorem dMO_isSafe_16 : decode cMO_isSafe 16 = .ok (.getfield 35, 3) := by decide +kernel
theorem dMO_isSafe_19 : decode cMO_isSafe 19 = .ok (.iload_n 1, 1) := by decide +kernel
theorem dMO_isSafe_20 : decode cMO_isSafe 20 = .ok (.iaload, 1) := by decide +kernel
theorem dMO_isSafe_21 : decode cMO_isSafe 21 = .ok (.ifCond .ne 7, 3) := by decide +kernel
theorem dMO_isSafe_24 : decode cMO_isSafe 24 = .ok (.iconst 1, 1) := by decide +kernel
theorem dMO_isSafe_25 : decode cMO_isSafe 25 = .ok (.goto 4, 3) := by decide +kernel
theorem dMO_isSafe_28 : decode cMO_isSafe 28 = .ok (.iconst 0, 1) := by decide +kernel
theorem dMO_isSafe_29 : decode cMO_isSafe 29 = .ok (.ireturn, 1) := by decide +kernel
theorem dMO_safe_0 : decode cMO_safe 0 = .ok (.aload_n 0, 1) := by decide +kernel
theorem dMO_safe_1 : decode cMO_safe 1 = .ok (.iload_n 1, 1) := by decide +kernel
theorem dMO_safe_2 : decode cMO_safe 2 = .ok (.ifCond .lt 7, 3) := by decide +kernel
theorem dMO_safe_5 : decode cMO_safe 5 = .ok (.iconst 0, 1) := by decide +kernel
theorem dMO_safe_6 : decode cMO_safe 6 = .ok (.goto 4, 3) := by decide +kernel
theorem dMO_safe_9 : decode cMO_safe 9 = .ok (.iconst 1, 1) := by decide +kernel
theorem dMO_safe_10 : decode cMO_safe 10 = .ok (.putfield 55, 3) := by decide +kernel
theorem dMO_safe_13 : decode cMO_safe 13 = .ok (.aload_n 0, 1) := by decide +kernel
theorem dMO_safe_14 : decode cMO_safe 14 = .ok (.getfield 55, 3) := by decide +kernel
theorem dMO_safe_17 : decode cMO_safe 17 = .ok (.ifCond .le 5, 3) := by decide +kernel
theorem dMO_safe_20 : decode cMO_safe 20 = .ok (.iconst 0, 1) := by decide +kernel
theorem dMO_safe_21 : decode cMO_safe 21 = .ok (.ireturn, 1) := by decide +kernel
theorem dMO_safe_22 : decode cMO_safe 22 = .ok (.aload_n 0, 1) := by decide +kernel
theorem dMO_safe_23 : decode cMO_safe 23 = .ok (.invokevirtual 97, 3) := by decide +kernel
theorem dMO_safe_26 : decode cMO_safe 26 = .ok (.aload_n 0, 1) := by decide +kernel
theorem dMO_safe_27 : decode cMO_safe 27 = .ok (.invokevirtual 104, 3) := by decide +kernel
theorem dMO_safe_30 : decode cMO_safe 30 = .ok (.iconst 0, 1) := by decide +kernel
theorem dMO_safe_31 : decode cMO_safe 31 = .ok (.istore_n 2, 1) := by decide +kernel
theorem dMO_safe_32 : decode cMO_safe 32 = .ok (.iconst 0, 1) := by decide +kernel
theorem dMO_safe_33 : decode cMO_safe 33 = .ok (.istore_n 3, 1) := by decide +kernel
theorem dMO_safe_34 : decode cMO_safe 34 = .ok (.iload_n 3, 1) := by decide +kernel
theorem dMO_safe_35 : decode cMO_safe 35 = .ok (.sipush 144, 3) := by decide +kernel
theorem dMO_safe_38 : decode cMO_safe 38 = .ok (.if_icmp .ge 38, 3) := by decide +kernel
theorem dMO_safe_41 : decode cMO_safe 41 = .ok (.aload_n 0, 1) := by decide +kernel
theorem dMO_safe_42 : decode cMO_safe 42 = .ok (.iload_n 3, 1) := by decide +kernel
theorem dMO_safe_43 : decode cMO_safe 43 = .ok (.invokevirtual 110, 3) := by decide +kernel
theorem dMO_safe_46 : decode cMO_safe 46 = .ok (.ifCond .eq 24, 3) := by decide +kernel
theorem dMO_safe_49 : decode cMO_safe 49 = .ok (.iload_n 2, 1) := by decide +kernel
theorem dMO_safe_50 : decode cMO_safe 50 = .ok (.iload_n 1, 1) := by decide +kernel
theorem dMO_safe_51 : decode cMO_safe 51 = .ok (.if_icmp .ne 16, 3) := by decide +kernel
theorem dMO_safe_54 : decode cMO_safe 54 = .ok (.bipush 100, 2) := by decide +kernel
theorem dMO_safe_56 : decode cMO_safe 56 = .ok (.iload_n 3, 1) := by decide +kernel
theorem dMO_safe_57 : decode cMO_safe 57 = .ok (.bipush 12, 2) := by decide +kernel
theorem dMO_safe_59 : decode cMO_safe 59 = .ok (.idiv, 1) := by decide +kernel
theorem dMO_safe_60 : decode cMO_safe 60 = .ok (.imul, 1) := by decide +kernel
theorem dMO_safe_61 : decode cMO_safe 61 = .ok (.iload_n 3, 1) := by decide +kernel
theorem dMO_safe_62 : decode cMO_safe 62 = .ok (.bipush 12, 2) := by decide +kernel
theorem dMO_safe_64 : decode cMO_safe 64 = .ok (.irem, 1) := by decide +kernel
theorem dMO_safe_65 : decode cMO_safe 65 = .ok (.iadd, 1) := by decide +kernel
theorem dMO_safe_66 : decode cMO_safe 66 = .ok (.ireturn, 1) := by decide +kernel
theorem dMO_safe_67 : decode cMO_safe 67 = .ok (.iinc 2 1, 3) := by decide +kernel
theorem dMO_safe_70 : decode cMO_safe 70 = .ok (.iinc 3 1, 3) := by decide +kernel
theorem dMO_safe_73 : decode cMO_safe 73 = .ok (.goto (-39), 3) := by decide +kernel
theorem dMO_safe_76 : decode cMO_safe 76 = .ok (.iconst (-1), 1) := by decide +kernel
theorem dMO_safe_77 : decode cMO_safe 77 = .ok (.ireturn, 1) := by decide +kernel
theorem dMO_cover_0 : decode cMO_cover 0 = .ok (.aload_n 0, 1) := by decide +kernel
theorem dMO_cover_1 : decode cMO_cover 1 = .ok (.aload_n 0, 1) := by decide +kernel
theorem dMO_cover_2 : decode cMO_cover 2 = .ok (.iload_n 1, 1) := by decide +kernel
theorem dMO_cover_3 : decode cMO_cover 3 = .ok (.iload_n 2, 1) := by decide +kernel
theorem dMO_cover_4 : decode cMO_cover 4 = .ok (.invokevirtual 70, 3) := by decide +kernel
theorem dMO_cover_7 : decode cMO_cover 7 = .ok (.ifCond .eq 7, 3) := by decide +kernel
theorem dMO_cover_10 : decode cMO_cover 10 = .ok (.iconst 0, 1) := by decide +kernel
theorem dMO_cover_11 : decode cMO_cover 11 = .ok (.goto 4, 3) := by decide +kernel
theorem dMO_cover_14 : decode cMO_cover 14 = .ok (.iconst 1, 1) := by decide +kernel
theorem dMO_cover_15 : decode cMO_cover 15 = .ok (.putfield 55, 3) := by decide +kernel
theorem dMO_cover_18 : decode cMO_cover 18 = .ok (.aload_n 0, 1) := by decide +kernel
theorem dMO_cover_19 : decode cMO_cover 19 = .ok (.getfield 55, 3) := by decide +kernel
theorem dMO_cover_22 : decode cMO_cover 22 = .ok (.ifCond .le 5, 3) := by decide +kernel
theorem dMO_cover_25 : decode cMO_cover 25 = .ok (.iconst 0, 1) := by decide +kernel
theorem dMO_cover_26 : decode cMO_cover 26 = .ok (.ireturn, 1) := by decide +kernel
theorem dMO_cover_27 : decode cMO_cover 27 = .ok (.aload_n 0, 1) := by decide +kernel
theorem dMO_cover_28 : decode cMO_cover 28 = .ok (.invokevirtual 97, 3) := by decide +kernel
theorem dMO_cover_31 : decode cMO_cover 31 = .ok (.aload_n 0, 1) := by decide +kernel
theorem dMO_cover_32 : decode cMO_cover 32 = .ok (.invokevirtual 104, 3) := by decide +kernel
theorem dMO_cover_35 : decode cMO_cover 35 = .ok (.sipush 1000, 3) := by decide +kernel
theorem dMO_cover_38 : decode cMO_cover 38 = .ok (.istore_n 3, 1) := by decide +kernel
theorem dMO_cover_39 : decode cMO_cover 39 = .ok (.iload_n 2, 1) := by decide +kernel
theorem dMO_cover_40 : decode cMO_cover 40 = .ok (.aload_n 0, 1) := by decide +kernel
theorem dMO_cover_41 : decode cMO_cover 41 = .ok (.getfield 52, 3) := by decide +kernel
theorem dMO_cover_44 : decode cMO_cover 44 = .ok (.isub, 1) := by decide +kernel
theorem dMO_cover_45 : decode cMO_cover 45 = .ok (.istore 4, 2) := by decide +kernel
theorem dMO_cover_47 : decode cMO_cover 47 = .ok (.iload 4, 2) := by decide +kernel
theorem dMO_cover_49 : decode cMO_cover 49 = .ok (.iload_n 2, 1) := by decide +kernel
theorem dMO_cover_50 : decode cMO_cover 50 = .ok (.aload_n 0, 1) := by decide +kernel
theorem dMO_cover_51 : decode cMO_cover 51 = .ok (.getfield 52, 3) := by decide +kernel
theorem dMO_cover_54 : decode cMO_cover 54 = .ok (.iadd, 1) := by decide +kernel
theorem dMO_cover_55 : decode cMO_cover 55 = .ok (.if_icmp .gt 150, 3) := by decide +kernel
theorem dMO_cover_58 : decode cMO_cover 58 = .ok (.iload_n 1, 1) := by decide +kernel
theorem dMO_cover_59 : decode cMO_cover 59 = .ok (.aload_n 0, 1) := by decide +kernel
theorem dMO_cover_60 : decode cMO_cover 60 = .ok (.getfield 52, 3) := by decide +kernel
theorem dMO_cover_63 : decode cMO_cover 63 = .ok (.isub, 1) := by decide +kernel
theorem dMO_cover_64 : decode cMO_cover 64 = .ok (.istore 5, 2) := by decide +kernel
theorem dMO_cover_66 : decode cMO_cover 66 = .ok (.iload 5, 2) := by decide +kernel
theorem dMO_cover_68 : decode cMO_cover 68 = .ok (.iload_n 1, 1) := by decide +kernel
theorem dMO_cover_69 : decode cMO_cover 69 = .ok (.aload_n 0, 1) := by decide +kernel
theorem dMO_cover_70 : decode cMO_cover 70 = .ok (.getfield 52, 3) := by decide +kernel
theorem dMO_cover_73 : decode cMO_cover 73 = .ok (.iadd, 1) := by decide +kernel
theorem dMO_cover_74 : decode cMO_cover 74 = .ok (.if_icmp .gt 125, 3) := by decide +kernel
theorem dMO_cover_77 : decode cMO_cover 77 = .ok (.iload 5, 2) := by decide +kernel
theorem dMO_cover_79 : decode cMO_cover 79 = .ok (.iload_n 1, 1) := by decide +kernel
theorem dMO_cover_80 : decode cMO_cover 80 = .ok (.isub, 1) := by decide +kernel
theorem dMO_cover_81 : decode cMO_cover 81 = .ok (.iload 5, 2) := by decide +kernel
theorem dMO_cover_83 : decode cMO_cover 83 = .ok (.iload_n 1, 1) := by decide +kernel
theorem dMO_cover_84 : decode cMO_cover 84 = .ok (.isub, 1) := by decide +kernel
theorem dMO_cover_85 : decode cMO_cover 85 = .ok (.imul, 1) := by decide +kernel
theorem dMO_cover_86 : decode cMO_cover 86 = .ok (.iload 4, 2) := by decide +kernel
theorem dMO_cover_88 : decode cMO_cover 88 = .ok (.iload_n 2, 1) := by decide +kernel
theorem dMO_cover_89 : decode cMO_cover 89 = .ok (.isub, 1) := by decide +kernel
theorem dMO_cover_90 : decode cMO_cover 90 = .ok (.iload 4, 2) := by decide +kernel
theorem dMO_cover_92 : decode cMO_cover 92 = .ok (.iload_n 2, 1) := by decide +kernel
theorem dMO_cover_93 : decode cMO_cover 93 = .ok (.isub, 1) := by decide +kernel
theorem dMO_cover_94 : decode cMO_cover 94 = .ok (.imul, 1) := by decide +kernel
theorem dMO_cover_95 : decode cMO_cover 95 = .ok (.iadd, 1) := by decide +kernel
theorem dMO_cover_96 : decode cMO_cover 96 = .ok (.istore 6, 2) := by decide +kernel
theorem dMO_cover_98 : decode cMO_cover 98 = .ok (.iload 6, 2) := by decide +kernel
theorem dMO_cover_100 : decode cMO_cover 100 = .ok (.aload_n 0, 1) := by decide +kernel
theorem dMO_cover_101 : decode cMO_cover 101 = .ok (.getfield 52, 3) := by decide +kernel
theorem dMO_cover_104 : decode cMO_cover 104 = .ok (.aload_n 0, 1) := by decide +kernel
theorem dMO_cover_105 : decode cMO_cover 105 = .ok (.getfield 52, 3) := by decide +kernel
theorem dMO_cover_108 : decode cMO_cover 108 = .ok (.imul, 1) := by decide +kernel
theorem dMO_cover_109 : decode cMO_cover 109 = .ok (.if_icmp .gt 84, 3) := by decide +kernel
theorem dMO_cover_112 : decode cMO_cover 112 = .ok (.aload_n 0, 1) := by decide +kernel
theorem dMO_cover_113 : decode cMO_cover 113 = .ok (.iload 5, 2) := by decide +kernel
theorem dMO_cover_115 : decode cMO_cover 115 = .ok (.iload 4, 2) := by decide +kernel
theorem dMO_cover_117 : decode cMO_cover 117 = .ok (.invokevirtual 78, 3) := by decide +kernel
theorem dMO_cover_120 : decode cMO_cover 120 = .ok (.istore 7, 2) := by decide +kernel
theorem dMO_cover_122 : decode cMO_cover 122 = .ok (.aload_n 0, 1) := by decide +kernel
theorem dMO_cover_123 : decode cMO_cover 123 = .ok (.getfield 52, 3) := by decide +kernel
theorem dMO_cover_126 : decode cMO_cover 126 = .ok (.aload_n 0, 1) := by decide +kernel
theorem dMO_cover_127 : decode cMO_cover 127 = .ok (.getfield 52, 3) := by decide +kernel
theorem dMO_cover_130 : decode cMO_cover 130 = .ok (.imul, 1) := by decide +kernel
theorem dMO_cover_131 : decode cMO_cover 131 = .ok (.iload 6, 2) := by decide +kernel
theorem dMO_cover_133 : decode cMO_cover 133 = .ok (.isub, 1) := by decide +kernel
theorem dMO_cover_134 : decode cMO_cover 134 = .ok (.istore 8, 2) := by decide +kernel
theorem dMO_cover_136 : decode cMO_cover 136 = .ok (.bipush 10, 2) := by decide +kernel
theorem dMO_cover_138 : decode cMO_cover 138 = .ok (.istore 9, 2) := by decide +kernel
theorem dMO_cover_140 : decode cMO_cover 140 = .ok (.iload 9, 2) := by decide +kernel
theorem dMO_cover_142 : decode cMO_cover 142 = .ok (.iload 8, 2) := by decide +kernel
theorem dMO_cover_144 : decode cMO_cover 144 = .ok (.iconst 0, 1) := by decide +kernel
theorem dMO_cover_145 : decode cMO_cover 145 = .ok (.aload_n 0, 1) := by decide +kernel
theorem dMO_cover_146 : decode cMO_cover 146 = .ok (.getfield 32, 3) := by decide +kernel
theorem dMO_cover_149 : decode cMO_cover 149 = .ok (.iload 7, 2) := by decide +kernel
theorem dMO_cover_151 : decode cMO_cover 151 = .ok (.iaload, 1) := by decide +kernel
theorem dMO_cover_152 : decode cMO_cover 152 = .ok (.invokestatic 66, 3) := by decide +kernel
theorem dMO_cover_155 : decode cMO_cover 155 = .ok (.ifCond .le 9, 3) := by decide +kernel
theorem dMO_cover_158 : decode cMO_cover 158 = .ok (.iinc 9 (-1), 3) := by decide +kernel
theorem dMO_cover_161 : decode cMO_cover 161 = .ok (.goto (-21), 3) := by decide +kernel
theorem dMO_cover_164 : decode cMO_cover 164 = .ok (.aload_n 0, 1) := by decide +kernel
theorem dMO_cover_165 : decode cMO_cover 165 = .ok (.getfield 29, 3) := by decide +kernel
theorem dMO_cover_168 : decode cMO_cover 168 = .ok (.iload 7, 2) := by decide +kernel
theorem dMO_cover_170 : decode cMO_cover 170 = .ok (.iaload, 1) := by decide +kernel
theorem dMO_cover_171 : decode cMO_cover 171 = .ok (.iload 9, 2) := by decide +kernel
theorem dMO_cover_173 : decode cMO_cover 173 = .ok (.iadd, 1) := by decide +kernel
theorem dMO_cover_174 : decode cMO_cover 174 = .ok (.iload_n 3, 1) := by decide +kernel
theorem dMO_cover_175 : decode cMO_cover 175 = .ok (.if_icmp .ge 16, 3) := by decide +kernel
theorem dMO_cover_178 : decode cMO_cover 178 = .ok (.aload_n 0, 1) := by decide +kernel
theorem dMO_cover_179 : decode cMO_cover 179 = .ok (.getfield 29, 3) := by decide +kernel
theorem dMO_cover_182 : decode cMO_cover 182 = .ok (.iload 7, 2) := by decide +kernel
theorem dMO_cover_184 : decode cMO_cover 184 = .ok (.iaload, 1) := by decide +kernel
theorem dMO_cover_185 : decode cMO_cover 185 = .ok (.iload 9, 2) := by decide +kernel
theorem dMO_cover_187 : decode cMO_cover 187 = .ok (.iadd, 1) := by decide +kernel
theorem dMO_cover_188 : decode cMO_cover 188 = .ok (.goto 4, 3) := by decide +kernel
theorem dMO_cover_191 : decode cMO_cover 191 = .ok (.iload_n 3, 1) := by decide +kernel
theorem dMO_cover_192 : decode cMO_cover 192 = .ok (.istore_n 3, 1) := by decide +kernel
theorem dMO_cover_193 : decode cMO_cover 193 = .ok (.iinc 5 1, 3) := by decide +kernel
theorem dMO_cover_196 : decode cMO_cover 196 = .ok (.goto (-130), 3) := by decide +kernel
theorem dMO_cover_199 : decode cMO_cover 199 = .ok (.iinc 4 1, 3) := by decide +kernel
theorem dMO_cover_202 : decode cMO_cover 202 = .ok (.goto (-155), 3) := by decide +kernel
end
section
theorem dMO_cover_205 : decode cMO_cover 205 = .ok (.iload_n 3, 1) := by decide +kernel
theorem dMO_cover_206 : decode cMO_cover 206 = .ok (.ireturn, 1) := by decide +kernel
theorem dMO_may_0 : decode cMO_may 0 = .ok (.aload_n 0, 1) := by decide +kernel
theorem dMO_may_1 : decode cMO_may 1 = .ok (.aload_n 0, 1) := by decide +kernel
theorem dMO_may_2 : decode cMO_may 2 = .ok (.iload_n 1, 1) := by decide +kernel
theorem dMO_may_3 : decode cMO_may 3 = .ok (.iload_n 2, 1) := by decide +kernel
theorem dMO_may_4 : decode cMO_may 4 = .ok (.invokevirtual 70, 3) := by decide +kernel
theorem dMO_may_7 : decode cMO_may 7 = .ok (.ifCond .eq 13, 3) := by decide +kernel
theorem dMO_may_10 : decode cMO_may 10 = .ok (.iload_n 3, 1) := by decide +kernel
theorem dMO_may_11 : decode cMO_may 11 = .ok (.iconst 1, 1) := by decide +kernel
theorem dMO_may_12 : decode cMO_may 12 = .ok (.bipush 50, 2) := by decide +kernel
theorem dMO_may_14 : decode cMO_may 14 = .ok (.invokestatic 58, 3) := by decide +kernel
theorem dMO_may_17 : decode cMO_may 17 = .ok (.ifCond .ne 7, 3) := by decide +kernel
theorem dMO_may_20 : decode cMO_may 20 = .ok (.iconst 1, 1) := by decide +kernel
theorem dMO_may_21 : decode cMO_may 21 = .ok (.goto 16, 3) := by decide +kernel
theorem dMO_may_24 : decode cMO_may 24 = .ok (.aload_n 0, 1) := by decide +kernel
theorem dMO_may_25 : decode cMO_may 25 = .ok (.getfield 114, 3) := by decide +kernel
theorem dMO_may_28 : decode cMO_may 28 = .ok (.iconst 4, 1) := by decide +kernel
theorem dMO_may_29 : decode cMO_may 29 = .ok (.if_icmp .ne 7, 3) := by decide +kernel
theorem dMO_may_32 : decode cMO_may 32 = .ok (.iconst 2, 1) := by decide +kernel
theorem dMO_may_33 : decode cMO_may 33 = .ok (.goto 4, 3) := by decide +kernel
theorem dMO_may_36 : decode cMO_may 36 = .ok (.iconst 0, 1) := by decide +kernel
theorem dMO_may_37 : decode cMO_may 37 = .ok (.putfield 55, 3) := by decide +kernel
theorem dMO_may_40 : decode cMO_may 40 = .ok (.aload_n 0, 1) := by decide +kernel
theorem dMO_may_41 : decode cMO_may 41 = .ok (.getfield 55, 3) := by decide +kernel
theorem dMO_may_44 : decode cMO_may 44 = .ok (.ifCond .le 5, 3) := by decide +kernel
theorem dMO_may_47 : decode cMO_may 47 = .ok (.iconst 0, 1) := by decide +kernel
theorem dMO_may_48 : decode cMO_may 48 = .ok (.ireturn, 1) := by decide +kernel
theorem dMO_may_49 : decode cMO_may 49 = .ok (.aload_n 0, 1) := by decide +kernel
theorem dMO_may_50 : decode cMO_may 50 = .ok (.getfield 23, 3) := by decide +kernel
theorem dMO_may_53 : decode cMO_may 53 = .ok (.aload_n 0, 1) := by decide +kernel
theorem dMO_may_54 : decode cMO_may 54 = .ok (.getfield 114, 3) := by decide +kernel
theorem dMO_may_57 : decode cMO_may 57 = .ok (.iload_n 1, 1) := by decide +kernel
theorem dMO_may_58 : decode cMO_may 58 = .ok (.iload_n 2, 1) := by decide +kernel
theorem dMO_may_59 : decode cMO_may 59 = .ok (.invokestatic 91, 3) := by decide +kernel
theorem dMO_may_62 : decode cMO_may 62 = .ok (.iastore, 1) := by decide +kernel
theorem dMO_may_63 : decode cMO_may 63 = .ok (.aload_n 0, 1) := by decide +kernel
theorem dMO_may_64 : decode cMO_may 64 = .ok (.getfield 26, 3) := by decide +kernel
theorem dMO_may_67 : decode cMO_may 67 = .ok (.aload_n 0, 1) := by decide +kernel
theorem dMO_may_68 : decode cMO_may 68 = .ok (.getfield 114, 3) := by decide +kernel
theorem dMO_may_71 : decode cMO_may 71 = .ok (.iload_n 3, 1) := by decide +kernel
theorem dMO_may_72 : decode cMO_may 72 = .ok (.iastore, 1) := by decide +kernel
theorem dMO_may_73 : decode cMO_may 73 = .ok (.aload_n 0, 1) := by decide +kernel
theorem dMO_may_74 : decode cMO_may 74 = .ok (.dup, 1) := by decide +kernel
theorem dMO_may_75 : decode cMO_may 75 = .ok (.getfield 114, 3) := by decide +kernel
theorem dMO_may_78 : decode cMO_may 78 = .ok (.iconst 1, 1) := by decide +kernel
theorem dMO_may_79 : decode cMO_may 79 = .ok (.iadd, 1) := by decide +kernel
theorem dMO_may_80 : decode cMO_may 80 = .ok (.putfield 114, 3) := by decide +kernel
theorem dMO_may_83 : decode cMO_may 83 = .ok (.aload_n 0, 1) := by decide +kernel
theorem dMO_may_84 : decode cMO_may 84 = .ok (.getfield 114, 3) := by decide +kernel
theorem dMO_may_87 : decode cMO_may 87 = .ok (.ireturn, 1) := by decide +kernel
theorem dMO_forget_0 : decode cMO_forget 0 = .ok (.aload_n 0, 1) := by decide +kernel
theorem dMO_forget_1 : decode cMO_forget 1 = .ok (.iconst 0, 1) := by decide +kernel
theorem dMO_forget_2 : decode cMO_forget 2 = .ok (.putfield 55, 3) := by decide +kernel
theorem dMO_forget_5 : decode cMO_forget 5 = .ok (.aload_n 0, 1) := by decide +kernel
theorem dMO_forget_6 : decode cMO_forget 6 = .ok (.getfield 114, 3) := by decide +kernel
theorem dMO_forget_9 : decode cMO_forget 9 = .ok (.istore_n 1, 1) := by decide +kernel
theorem dMO_forget_10 : decode cMO_forget 10 = .ok (.aload_n 0, 1) := by decide +kernel
theorem dMO_forget_11 : decode cMO_forget 11 = .ok (.iconst 0, 1) := by decide +kernel
theorem dMO_forget_12 : decode cMO_forget 12 = .ok (.putfield 114, 3) := by decide +kernel
theorem dMO_forget_15 : decode cMO_forget 15 = .ok (.iload_n 1, 1) := by decide +kernel
theorem dMO_forget_16 : decode cMO_forget 16 = .ok (.ireturn, 1) := by decide +kernel
theorem dMO_want_0 : decode cMO_want 0 = .ok (.aload_n 0, 1) := by decide +kernel
theorem dMO_want_1 : decode cMO_want 1 = .ok (.aload_n 0, 1) := by decide +kernel
theorem dMO_want_2 : decode cMO_want 2 = .ok (.iload_n 1, 1) := by decide +kernel
theorem dMO_want_3 : decode cMO_want 3 = .ok (.iload_n 2, 1) := by decide +kernel
theorem dMO_want_4 : decode cMO_want 4 = .ok (.invokevirtual 70, 3) := by decide +kernel
theorem dMO_want_7 : decode cMO_want 7 = .ok (.ifCond .eq 7, 3) := by decide +kernel
theorem dMO_want_10 : decode cMO_want 10 = .ok (.iconst 0, 1) := by decide +kernel
theorem dMO_want_11 : decode cMO_want 11 = .ok (.goto 4, 3) := by decide +kernel
theorem dMO_want_14 : decode cMO_want 14 = .ok (.iconst 1, 1) := by decide +kernel
theorem dMO_want_15 : decode cMO_want 15 = .ok (.putfield 55, 3) := by decide +kernel
theorem dMO_want_18 : decode cMO_want 18 = .ok (.aload_n 0, 1) := by decide +kernel
theorem dMO_want_19 : decode cMO_want 19 = .ok (.getfield 55, 3) := by decide +kernel
theorem dMO_want_22 : decode cMO_want 22 = .ok (.ifCond .le 5, 3) := by decide +kernel
theorem dMO_want_25 : decode cMO_want 25 = .ok (.iconst 0, 1) := by decide +kernel
theorem dMO_want_26 : decode cMO_want 26 = .ok (.ireturn, 1) := by decide +kernel
theorem dMO_want_27 : decode cMO_want 27 = .ok (.aload_n 0, 1) := by decide +kernel
theorem dMO_want_28 : decode cMO_want 28 = .ok (.getfield 19, 3) := by decide +kernel
theorem dMO_want_31 : decode cMO_want 31 = .ok (.iload_n 1, 1) := by decide +kernel
theorem dMO_want_32 : decode cMO_want 32 = .ok (.iload_n 2, 1) := by decide +kernel
theorem dMO_want_33 : decode cMO_want 33 = .ok (.invokestatic 91, 3) := by decide +kernel
theorem dMO_want_36 : decode cMO_want 36 = .ok (.baload, 1) := by decide +kernel
theorem dMO_want_37 : decode cMO_want 37 = .ok (.istore 4, 2) := by decide +kernel
theorem dMO_want_39 : decode cMO_want 39 = .ok (.aload_n 0, 1) := by decide +kernel
theorem dMO_want_40 : decode cMO_want 40 = .ok (.getfield 19, 3) := by decide +kernel
theorem dMO_want_43 : decode cMO_want 43 = .ok (.iload_n 1, 1) := by decide +kernel
theorem dMO_want_44 : decode cMO_want 44 = .ok (.iload_n 2, 1) := by decide +kernel
theorem dMO_want_45 : decode cMO_want 45 = .ok (.invokestatic 91, 3) := by decide +kernel
theorem dMO_want_48 : decode cMO_want 48 = .ok (.iload_n 3, 1) := by decide +kernel
theorem dMO_want_49 : decode cMO_want 49 = .ok (.bastore, 1) := by decide +kernel
theorem dMO_want_50 : decode cMO_want 50 = .ok (.iload 4, 2) := by decide +kernel
theorem dMO_want_52 : decode cMO_want 52 = .ok (.ireturn, 1) := by decide +kernel
theorem dMO_does_0 : decode cMO_does 0 = .ok (.aload_n 0, 1) := by decide +kernel
theorem dMO_does_1 : decode cMO_does 1 = .ok (.invokevirtual 97, 3) := by decide +kernel
theorem dMO_does_4 : decode cMO_does 4 = .ok (.iconst 0, 1) := by decide +kernel
theorem dMO_does_5 : decode cMO_does 5 = .ok (.istore_n 2, 1) := by decide +kernel
theorem dMO_does_6 : decode cMO_does 6 = .ok (.iload_n 2, 1) := by decide +kernel
theorem dMO_does_7 : decode cMO_does 7 = .ok (.aload_n 0, 1) := by decide +kernel
theorem dMO_does_8 : decode cMO_does 8 = .ok (.getfield 114, 3) := by decide +kernel
theorem dMO_does_11 : decode cMO_does 11 = .ok (.if_icmp .ge 47, 3) := by decide +kernel
theorem dMO_does_14 : decode cMO_does 14 = .ok (.iload_n 1, 1) := by decide +kernel
theorem dMO_does_15 : decode cMO_does 15 = .ok (.iload_n 2, 1) := by decide +kernel
theorem dMO_does_16 : decode cMO_does 16 = .ok (.ishr, 1) := by decide +kernel
theorem dMO_does_17 : decode cMO_does 17 = .ok (.iconst 1, 1) := by decide +kernel
theorem dMO_does_18 : decode cMO_does 18 = .ok (.iand, 1) := by decide +kernel
theorem dMO_does_19 : decode cMO_does 19 = .ok (.iconst 1, 1) := by decide +kernel
theorem dMO_does_20 : decode cMO_does 20 = .ok (.if_icmp .ne 32, 3) := by decide +kernel
theorem dMO_does_23 : decode cMO_does 23 = .ok (.aload_n 0, 1) := by decide +kernel
theorem dMO_does_24 : decode cMO_does 24 = .ok (.getfield 16, 3) := by decide +kernel
theorem dMO_does_27 : decode cMO_does 27 = .ok (.aload_n 0, 1) := by decide +kernel
theorem dMO_does_28 : decode cMO_does 28 = .ok (.getfield 23, 3) := by decide +kernel
theorem dMO_does_31 : decode cMO_does 31 = .ok (.iload_n 2, 1) := by decide +kernel
theorem dMO_does_32 : decode cMO_does 32 = .ok (.iaload, 1) := by decide +kernel
theorem dMO_does_33 : decode cMO_does 33 = .ok (.aload_n 0, 1) := by decide +kernel
theorem dMO_does_34 : decode cMO_does 34 = .ok (.getfield 7, 3) := by decide +kernel
theorem dMO_does_37 : decode cMO_does 37 = .ok (.aload_n 0, 1) := by decide +kernel
theorem dMO_does_38 : decode cMO_does 38 = .ok (.getfield 23, 3) := by decide +kernel
theorem dMO_does_41 : decode cMO_does 41 = .ok (.iload_n 2, 1) := by decide +kernel
theorem dMO_does_42 : decode cMO_does 42 = .ok (.iaload, 1) := by decide +kernel
theorem dMO_does_43 : decode cMO_does 43 = .ok (.iaload, 1) := by decide +kernel
theorem dMO_does_44 : decode cMO_does 44 = .ok (.aload_n 0, 1) := by decide +kernel
theorem dMO_does_45 : decode cMO_does 45 = .ok (.getfield 26, 3) := by decide +kernel
theorem dMO_does_48 : decode cMO_does 48 = .ok (.iload_n 2, 1) := by decide +kernel
theorem dMO_does_49 : decode cMO_does 49 = .ok (.iaload, 1) := by decide +kernel
theorem dMO_does_50 : decode cMO_does 50 = .ok (.iadd, 1) := by decide +kernel
theorem dMO_does_51 : decode cMO_does 51 = .ok (.iastore, 1) := by decide +kernel
theorem dMO_does_52 : decode cMO_does 52 = .ok (.iinc 2 1, 3) := by decide +kernel
theorem dMO_does_55 : decode cMO_does 55 = .ok (.goto (-49), 3) := by decide +kernel
theorem dMO_does_58 : decode cMO_does 58 = .ok (.aload_n 0, 1) := by decide +kernel
theorem dMO_does_59 : decode cMO_does 59 = .ok (.invokevirtual 104, 3) := by decide +kernel
theorem dMO_does_62 : decode cMO_does 62 = .ok (.iconst 1, 1) := by decide +kernel
theorem dMO_does_63 : decode cMO_does 63 = .ok (.istore_n 2, 1) := by decide +kernel
theorem dMO_does_64 : decode cMO_does 64 = .ok (.iconst 0, 1) := by decide +kernel
theorem dMO_does_65 : decode cMO_does 65 = .ok (.istore_n 3, 1) := by decide +kernel
theorem dMO_does_66 : decode cMO_does 66 = .ok (.iload_n 3, 1) := by decide +kernel
theorem dMO_does_67 : decode cMO_does 67 = .ok (.sipush 144, 3) := by decide +kernel
theorem dMO_does_70 : decode cMO_does 70 = .ok (.if_icmp .ge 36, 3) := by decide +kernel
theorem dMO_does_73 : decode cMO_does 73 = .ok (.iload_n 2, 1) := by decide +kernel
theorem dMO_does_74 : decode cMO_does 74 = .ok (.ifCond .eq 24, 3) := by decide +kernel
theorem dMO_does_77 : decode cMO_does 77 = .ok (.aload_n 0, 1) := by decide +kernel
theorem dMO_does_78 : decode cMO_does 78 = .ok (.getfield 19, 3) := by decide +kernel
theorem dMO_does_81 : decode cMO_does 81 = .ok (.iload_n 3, 1) := by decide +kernel
theorem dMO_does_82 : decode cMO_does 82 = .ok (.baload, 1) := by decide +kernel
theorem dMO_does_83 : decode cMO_does 83 = .ok (.ifCond .eq 11, 3) := by decide +kernel
theorem dMO_does_86 : decode cMO_does 86 = .ok (.aload_n 0, 1) := by decide +kernel
theorem dMO_does_87 : decode cMO_does 87 = .ok (.iload_n 3, 1) := by decide +kernel
theorem dMO_does_88 : decode cMO_does 88 = .ok (.invokevirtual 110, 3) := by decide +kernel
theorem dMO_does_91 : decode cMO_does 91 = .ok (.ifCond .eq 7, 3) := by decide +kernel
theorem dMO_does_94 : decode cMO_does 94 = .ok (.iconst 1, 1) := by decide +kernel
theorem dMO_does_95 : decode cMO_does 95 = .ok (.goto 4, 3) := by decide +kernel
theorem dMO_does_98 : decode cMO_does 98 = .ok (.iconst 0, 1) := by decide +kernel
theorem dMO_does_99 : decode cMO_does 99 = .ok (.istore_n 2, 1) := by decide +kernel
theorem dMO_does_100 : decode cMO_does 100 = .ok (.iinc 3 1, 3) := by decide +kernel
theorem dMO_does_103 : decode cMO_does 103 = .ok (.goto (-37), 3) := by decide +kernel
theorem dMO_does_106 : decode cMO_does 106 = .ok (.iload_n 2, 1) := by decide +kernel
theorem dMO_does_107 : decode cMO_does 107 = .ok (.ireturn, 1) := by decide +kernel
theorem dMO_manyOf_0 : decode cMO_manyOf 0 = .ok (.iload_n 1, 1) := by decide +kernel
theorem dMO_manyOf_1 : decode cMO_manyOf 1 = .ok (.iconst 1, 1) := by decide +kernel
theorem dMO_manyOf_2 : decode cMO_manyOf 2 = .ok (.iand, 1) := by decide +kernel
theorem dMO_manyOf_3 : decode cMO_manyOf 3 = .ok (.iload_n 1, 1) := by decide +kernel
theorem dMO_manyOf_4 : decode cMO_manyOf 4 = .ok (.iconst 1, 1) := by decide +kernel
theorem dMO_manyOf_5 : decode cMO_manyOf 5 = .ok (.ishr, 1) := by decide +kernel
theorem dMO_manyOf_6 : decode cMO_manyOf 6 = .ok (.iconst 1, 1) := by decide +kernel
theorem dMO_manyOf_7 : decode cMO_manyOf 7 = .ok (.iand, 1) := by decide +kernel
theorem dMO_manyOf_8 : decode cMO_manyOf 8 = .ok (.iadd, 1) := by decide +kernel
theorem dMO_manyOf_9 : decode cMO_manyOf 9 = .ok (.iload_n 1, 1) := by decide +kernel
theorem dMO_manyOf_10 : decode cMO_manyOf 10 = .ok (.iconst 2, 1) := by decide +kernel
theorem dMO_manyOf_11 : decode cMO_manyOf 11 = .ok (.ishr, 1) := by decide +kernel
theorem dMO_manyOf_12 : decode cMO_manyOf 12 = .ok (.iconst 1, 1) := by decide +kernel
theorem dMO_manyOf_13 : decode cMO_manyOf 13 = .ok (.iand, 1) := by decide +kernel
theorem dMO_manyOf_14 : decode cMO_manyOf 14 = .ok (.iadd, 1) := by decide +kernel
theorem dMO_manyOf_15 : decode cMO_manyOf 15 = .ok (.iload_n 1, 1) := by decide +kernel
theorem dMO_manyOf_16 : decode cMO_manyOf 16 = .ok (.iconst 3, 1) := by decide +kernel
theorem dMO_manyOf_17 : decode cMO_manyOf 17 = .ok (.ishr, 1) := by decide +kernel
theorem dMO_manyOf_18 : decode cMO_manyOf 18 = .ok (.iconst 1, 1) := by decide +kernel
theorem dMO_manyOf_19 : decode cMO_manyOf 19 = .ok (.iand, 1) := by decide +kernel
theorem dMO_manyOf_20 : decode cMO_manyOf 20 = .ok (.iadd, 1) := by decide +kernel
theorem dMO_manyOf_21 : decode cMO_manyOf 21 = .ok (.ireturn, 1) := by decide +kernel
theorem dMO_lengthOf_0 : decode cMO_lengthOf 0 = .ok (.iconst 0, 1) := by decide +kernel
theorem dMO_lengthOf_1 : decode cMO_lengthOf 1 = .ok (.istore_n 2, 1) := by decide +kernel
theorem dMO_lengthOf_2 : decode cMO_lengthOf 2 = .ok (.iconst 0, 1) := by decide +kernel
theorem dMO_lengthOf_3 : decode cMO_lengthOf 3 = .ok (.istore_n 3, 1) := by decide +kernel
theorem dMO_lengthOf_4 : decode cMO_lengthOf 4 = .ok (.iload_n 3, 1) := by decide +kernel
theorem dMO_lengthOf_5 : decode cMO_lengthOf 5 = .ok (.aload_n 0, 1) := by decide +kernel
theorem dMO_lengthOf_6 : decode cMO_lengthOf 6 = .ok (.getfield 114, 3) := by decide +kernel
theorem dMO_lengthOf_9 : decode cMO_lengthOf 9 = .ok (.if_icmp .ge 31, 3) := by decide +kernel
theorem dMO_lengthOf_12 : decode cMO_lengthOf 12 = .ok (.iload_n 2, 1) := by decide +kernel
theorem dMO_lengthOf_13 : decode cMO_lengthOf 13 = .ok (.iload_n 1, 1) := by decide +kernel
theorem dMO_lengthOf_14 : decode cMO_lengthOf 14 = .ok (.iload_n 3, 1) := by decide +kernel
theorem dMO_lengthOf_15 : decode cMO_lengthOf 15 = .ok (.ishr, 1) := by decide +kernel
theorem dMO_lengthOf_16 : decode cMO_lengthOf 16 = .ok (.iconst 1, 1) := by decide +kernel
theorem dMO_lengthOf_17 : decode cMO_lengthOf 17 = .ok (.iand, 1) := by decide +kernel
theorem dMO_lengthOf_18 : decode cMO_lengthOf 18 = .ok (.iconst 1, 1) := by decide +kernel
theorem dMO_lengthOf_19 : decode cMO_lengthOf 19 = .ok (.if_icmp .ne 12, 3) := by decide +kernel
theorem dMO_lengthOf_22 : decode cMO_lengthOf 22 = .ok (.aload_n 0, 1) := by decide +kernel
theorem dMO_lengthOf_23 : decode cMO_lengthOf 23 = .ok (.getfield 26, 3) := by decide +kernel
theorem dMO_lengthOf_26 : decode cMO_lengthOf 26 = .ok (.iload_n 3, 1) := by decide +kernel
theorem dMO_lengthOf_27 : decode cMO_lengthOf 27 = .ok (.iaload, 1) := by decide +kernel
theorem dMO_lengthOf_28 : decode cMO_lengthOf 28 = .ok (.goto 4, 3) := by decide +kernel
theorem dMO_lengthOf_31 : decode cMO_lengthOf 31 = .ok (.iconst 0, 1) := by decide +kernel
theorem dMO_lengthOf_32 : decode cMO_lengthOf 32 = .ok (.iadd, 1) := by decide +kernel
theorem dMO_lengthOf_33 : decode cMO_lengthOf 33 = .ok (.istore_n 2, 1) := by decide +kernel
theorem dMO_lengthOf_34 : decode cMO_lengthOf 34 = .ok (.iinc 3 1, 3) := by decide +kernel
theorem dMO_lengthOf_37 : decode cMO_lengthOf 37 = .ok (.goto (-33), 3) := by decide +kernel
theorem dMO_lengthOf_40 : decode cMO_lengthOf 40 = .ok (.iload_n 2, 1) := by decide +kernel
theorem dMO_lengthOf_41 : decode cMO_lengthOf 41 = .ok (.ireturn, 1) := by decide +kernel
theorem dMO_choose_0 : decode cMO_choose 0 = .ok (.aload_n 0, 1) := by decide +kernel
theorem dMO_choose_1 : decode cMO_choose 1 = .ok (.iconst 0, 1) := by decide +kernel
theorem dMO_choose_2 : decode cMO_choose 2 = .ok (.putfield 55, 3) := by decide +kernel
theorem dMO_choose_5 : decode cMO_choose 5 = .ok (.iconst (-1), 1) := by decide +kernel
theorem dMO_choose_6 : decode cMO_choose 6 = .ok (.istore_n 1, 1) := by decide +kernel
theorem dMO_choose_7 : decode cMO_choose 7 = .ok (.iconst 0, 1) := by decide +kernel
theorem dMO_choose_8 : decode cMO_choose 8 = .ok (.istore_n 2, 1) := by decide +kernel
theorem dMO_choose_9 : decode cMO_choose 9 = .ok (.iload_n 2, 1) := by decide +kernel
theorem dMO_choose_10 : decode cMO_choose 10 = .ok (.iconst 1, 1) := by decide +kernel
theorem dMO_choose_11 : decode cMO_choose 11 = .ok (.aload_n 0, 1) := by decide +kernel
theorem dMO_choose_12 : decode cMO_choose 12 = .ok (.getfield 114, 3) := by decide +kernel
theorem dMO_choose_15 : decode cMO_choose 15 = .ok (.ishl, 1) := by decide +kernel
theorem dMO_choose_16 : decode cMO_choose 16 = .ok (.if_icmp .ge 77, 3) := by decide +kernel
theorem dMO_choose_19 : decode cMO_choose 19 = .ok (.iload_n 1, 1) := by decide +kernel
theorem dMO_choose_20 : decode cMO_choose 20 = .ok (.iconst (-1), 1) := by decide +kernel
theorem dMO_choose_21 : decode cMO_choose 21 = .ok (.if_icmp .eq 42, 3) := by decide +kernel
theorem dMO_choose_24 : decode cMO_choose 24 = .ok (.aload_n 0, 1) := by decide +kernel
theorem dMO_choose_25 : decode cMO_choose 25 = .ok (.iload_n 2, 1) := by decide +kernel
theorem dMO_choose_26 : decode cMO_choose 26 = .ok (.invokevirtual 117, 3) := by decide +kernel
theorem dMO_choose_29 : decode cMO_choose 29 = .ok (.aload_n 0, 1) := by decide +kernel
theorem dMO_choose_30 : decode cMO_choose 30 = .ok (.iload_n 1, 1) := by decide +kernel
theorem dMO_choose_31 : decode cMO_choose 31 = .ok (.invokevirtual 117, 3) := by decide +kernel
theorem dMO_choose_34 : decode cMO_choose 34 = .ok (.if_icmp .lt 29, 3) := by decide +kernel
theorem dMO_choose_37 : decode cMO_choose 37 = .ok (.aload_n 0, 1) := by decide +kernel
theorem dMO_choose_38 : decode cMO_choose 38 = .ok (.iload_n 2, 1) := by decide +kernel
theorem dMO_choose_39 : decode cMO_choose 39 = .ok (.invokevirtual 117, 3) := by decide +kernel
theorem dMO_choose_42 : decode cMO_choose 42 = .ok (.aload_n 0, 1) := by decide +kernel
theorem dMO_choose_43 : decode cMO_choose 43 = .ok (.iload_n 1, 1) := by decide +kernel
theorem dMO_choose_44 : decode cMO_choose 44 = .ok (.invokevirtual 117, 3) := by decide +kernel
theorem dMO_choose_47 : decode cMO_choose 47 = .ok (.if_icmp .ne 20, 3) := by decide +kernel
theorem dMO_choose_50 : decode cMO_choose 50 = .ok (.aload_n 0, 1) := by decide +kernel
theorem dMO_choose_51 : decode cMO_choose 51 = .ok (.iload_n 2, 1) := by decide +kernel
theorem dMO_choose_52 : decode cMO_choose 52 = .ok (.invokevirtual 120, 3) := by decide +kernel
theorem dMO_choose_55 : decode cMO_choose 55 = .ok (.aload_n 0, 1) := by decide +kernel
theorem dMO_choose_56 : decode cMO_choose 56 = .ok (.iload_n 1, 1) := by decide +kernel
theorem dMO_choose_57 : decode cMO_choose 57 = .ok (.invokevirtual 120, 3) := by decide +kernel
theorem dMO_choose_60 : decode cMO_choose 60 = .ok (.if_icmp .ge 7, 3) := by decide +kernel
theorem dMO_choose_63 : decode cMO_choose 63 = .ok (.iconst 1, 1) := by decide +kernel
theorem dMO_choose_64 : decode cMO_choose 64 = .ok (.goto 4, 3) := by decide +kernel
theorem dMO_choose_67 : decode cMO_choose 67 = .ok (.iconst 0, 1) := by decide +kernel
theorem dMO_choose_68 : decode cMO_choose 68 = .ok (.istore_n 3, 1) := by decide +kernel
theorem dMO_choose_69 : decode cMO_choose 69 = .ok (.iload_n 3, 1) := by decide +kernel
theorem dMO_choose_70 : decode cMO_choose 70 = .ok (.ifCond .eq 15, 3) := by decide +kernel
theorem dMO_choose_73 : decode cMO_choose 73 = .ok (.aload_n 0, 1) := by decide +kernel
theorem dMO_choose_74 : decode cMO_choose 74 = .ok (.iload_n 2, 1) := by decide +kernel
theorem dMO_choose_75 : decode cMO_choose 75 = .ok (.invokevirtual 123, 3) := by decide +kernel
theorem dMO_choose_78 : decode cMO_choose 78 = .ok (.ifCond .eq 7, 3) := by decide +kernel
theorem dMO_choose_81 : decode cMO_choose 81 = .ok (.iload_n 2, 1) := by decide +kernel
theorem dMO_choose_82 : decode cMO_choose 82 = .ok (.goto 4, 3) := by decide +kernel
theorem dMO_choose_85 : decode cMO_choose 85 = .ok (.iload_n 1, 1) := by decide +kernel
theorem dMO_choose_86 : decode cMO_choose 86 = .ok (.istore_n 1, 1) := by decide +kernel
theorem dMO_choose_87 : decode cMO_choose 87 = .ok (.iinc 2 1, 3) := by decide +kernel
theorem dMO_choose_90 : decode cMO_choose 90 = .ok (.goto (-81), 3) := by decide +kernel
theorem dMO_choose_93 : decode cMO_choose 93 = .ok (.iload_n 1, 1) := by decide +kernel
theorem dMO_choose_94 : decode cMO_choose 94 = .ok (.ireturn, 1) := by decide +kernel
theorem dMO_put_0 : decode cMO_put 0 = .ok (.aload_n 0, 1) := by decide +kernel
theorem dMO_put_1 : decode cMO_put 1 = .ok (.iconst 0, 1) := by decide +kernel
theorem dMO_put_2 : decode cMO_put 2 = .ok (.putfield 55, 3) := by decide +kernel
theorem dMO_put_5 : decode cMO_put 5 = .ok (.aload_n 0, 1) := by decide +kernel
theorem dMO_put_6 : decode cMO_put 6 = .ok (.invokevirtual 97, 3) := by decide +kernel
theorem dMO_put_9 : decode cMO_put 9 = .ok (.aload_n 0, 1) := by decide +kernel
theorem dMO_put_10 : decode cMO_put 10 = .ok (.invokevirtual 104, 3) := by decide +kernel
theorem dMO_put_13 : decode cMO_put 13 = .ok (.iconst 0, 1) := by decide +kernel
theorem dMO_put_14 : decode cMO_put 14 = .ok (.istore_n 2, 1) := by decide +kernel
theorem dMO_put_15 : decode cMO_put 15 = .ok (.iload_n 2, 1) := by decide +kernel
theorem dMO_put_16 : decode cMO_put 16 = .ok (.sipush 144, 3) := by decide +kernel
theorem dMO_put_19 : decode cMO_put 19 = .ok (.if_icmp .ge 20, 3) := by decide +kernel
theorem dMO_put_22 : decode cMO_put 22 = .ok (.aload_n 0, 1) := by decide +kernel
theorem dMO_put_23 : decode cMO_put 23 = .ok (.getfield 38, 3) := by decide +kernel
theorem dMO_put_26 : decode cMO_put 26 = .ok (.iload_n 2, 1) := by decide +kernel
theorem dMO_put_27 : decode cMO_put 27 = .ok (.aload_n 0, 1) := by decide +kernel
theorem dMO_put_28 : decode cMO_put 28 = .ok (.iload_n 2, 1) := by decide +kernel
theorem dMO_put_29 : decode cMO_put 29 = .ok (.invokevirtual 110, 3) := by decide +kernel
theorem dMO_put_32 : decode cMO_put 32 = .ok (.bastore, 1) := by decide +kernel
theorem dMO_put_33 : decode cMO_put 33 = .ok (.iinc 2 1, 3) := by decide +kernel
theorem dMO_put_36 : decode cMO_put 36 = .ok (.goto (-21), 3) := by decide +kernel
theorem dMO_put_39 : decode cMO_put 39 = .ok (.iconst 0, 1) := by decide +kernel
theorem dMO_put_40 : decode cMO_put 40 = .ok (.istore_n 2, 1) := by decide +kernel
theorem dMO_put_41 : decode cMO_put 41 = .ok (.iload_n 2, 1) := by decide +kernel
theorem dMO_put_42 : decode cMO_put 42 = .ok (.aload_n 0, 1) := by decide +kernel
theorem dMO_put_43 : decode cMO_put 43 = .ok (.getfield 114, 3) := by decide +kernel
theorem dMO_put_46 : decode cMO_put 46 = .ok (.if_icmp .ge 35, 3) := by decide +kernel
theorem dMO_put_49 : decode cMO_put 49 = .ok (.iload_n 1, 1) := by decide +kernel
theorem dMO_put_50 : decode cMO_put 50 = .ok (.iload_n 2, 1) := by decide +kernel
theorem dMO_put_51 : decode cMO_put 51 = .ok (.ishr, 1) := by decide +kernel
theorem dMO_put_52 : decode cMO_put 52 = .ok (.iconst 1, 1) := by decide +kernel
theorem dMO_put_53 : decode cMO_put 53 = .ok (.iand, 1) := by decide +kernel
theorem dMO_put_54 : decode cMO_put 54 = .ok (.iconst 1, 1) := by decide +kernel
theorem dMO_put_55 : decode cMO_put 55 = .ok (.if_icmp .ne 20, 3) := by decide +kernel
theorem dMO_put_58 : decode cMO_put 58 = .ok (.aload_n 0, 1) := by decide +kernel
theorem dMO_put_59 : decode cMO_put 59 = .ok (.getfield 13, 3) := by decide +kernel
theorem dMO_put_62 : decode cMO_put 62 = .ok (.aload_n 0, 1) := by decide +kernel
theorem dMO_put_63 : decode cMO_put 63 = .ok (.getfield 23, 3) := by decide +kernel
theorem dMO_put_66 : decode cMO_put 66 = .ok (.iload_n 2, 1) := by decide +kernel
theorem dMO_put_67 : decode cMO_put 67 = .ok (.iaload, 1) := by decide +kernel
theorem dMO_put_68 : decode cMO_put 68 = .ok (.aload_n 0, 1) := by decide +kernel
theorem dMO_put_69 : decode cMO_put 69 = .ok (.getfield 26, 3) := by decide +kernel
theorem dMO_put_72 : decode cMO_put 72 = .ok (.iload_n 2, 1) := by decide +kernel
theorem dMO_put_73 : decode cMO_put 73 = .ok (.iaload, 1) := by decide +kernel
theorem dMO_put_74 : decode cMO_put 74 = .ok (.iastore, 1) := by decide +kernel
theorem dMO_put_75 : decode cMO_put 75 = .ok (.iinc 2 1, 3) := by decide +kernel
theorem dMO_put_78 : decode cMO_put 78 = .ok (.goto (-37), 3) := by decide +kernel
theorem dMO_put_81 : decode cMO_put 81 = .ok (.aload_n 0, 1) := by decide +kernel
theorem dMO_put_82 : decode cMO_put 82 = .ok (.invokevirtual 97, 3) := by decide +kernel
theorem dMO_put_85 : decode cMO_put 85 = .ok (.aload_n 0, 1) := by decide +kernel
theorem dMO_put_86 : decode cMO_put 86 = .ok (.invokevirtual 104, 3) := by decide +kernel
theorem dMO_put_89 : decode cMO_put 89 = .ok (.iconst 0, 1) := by decide +kernel
theorem dMO_put_90 : decode cMO_put 90 = .ok (.istore_n 2, 1) := by decide +kernel
theorem dMO_put_91 : decode cMO_put 91 = .ok (.iconst 0, 1) := by decide +kernel
theorem dMO_put_92 : decode cMO_put 92 = .ok (.istore_n 3, 1) := by decide +kernel
theorem dMO_put_93 : decode cMO_put 93 = .ok (.iload_n 3, 1) := by decide +kernel
theorem dMO_put_94 : decode cMO_put 94 = .ok (.sipush 144, 3) := by decide +kernel
theorem dMO_put_97 : decode cMO_put 97 = .ok (.if_icmp .ge 31, 3) := by decide +kernel
theorem dMO_put_100 : decode cMO_put 100 = .ok (.iload_n 2, 1) := by decide +kernel
theorem dMO_put_101 : decode cMO_put 101 = .ok (.aload_n 0, 1) := by decide +kernel
theorem dMO_put_102 : decode cMO_put 102 = .ok (.getfield 38, 3) := by decide +kernel
theorem dMO_put_105 : decode cMO_put 105 = .ok (.iload_n 3, 1) := by decide +kernel
theorem dMO_put_106 : decode cMO_put 106 = .ok (.baload, 1) := by decide +kernel
theorem dMO_put_107 : decode cMO_put 107 = .ok (.aload_n 0, 1) := by decide +kernel
theorem dMO_put_108 : decode cMO_put 108 = .ok (.iload_n 3, 1) := by decide +kernel
theorem dMO_put_109 : decode cMO_put 109 = .ok (.invokevirtual 110, 3) := by decide +kernel
theorem dMO_put_112 : decode cMO_put 112 = .ok (.if_icmp .eq 7, 3) := by decide +kernel
theorem dMO_put_115 : decode cMO_put 115 = .ok (.iconst 1, 1) := by decide +kernel
theorem dMO_put_116 : decode cMO_put 116 = .ok (.goto 4, 3) := by decide +kernel
theorem dMO_put_119 : decode cMO_put 119 = .ok (.iconst 0, 1) := by decide +kernel
theorem dMO_put_120 : decode cMO_put 120 = .ok (.iadd, 1) := by decide +kernel
theorem dMO_put_121 : decode cMO_put 121 = .ok (.istore_n 2, 1) := by decide +kernel
theorem dMO_put_122 : decode cMO_put 122 = .ok (.iinc 3 1, 3) := by decide +kernel
theorem dMO_put_125 : decode cMO_put 125 = .ok (.goto (-32), 3) := by decide +kernel
theorem dMO_put_128 : decode cMO_put 128 = .ok (.iload_n 2, 1) := by decide +kernel
theorem dMO_put_129 : decode cMO_put 129 = .ok (.ireturn, 1) := by decide +kernel
theorem dBA_init_0 : decode cBA_init 0 = .ok (.aload_n 0, 1) := by decide +kernel
theorem dBA_init_1 : decode cBA_init 1 = .ok (.invokespecial 3, 3) := by decide +kernel
theorem dBA_init_4 : decode cBA_init 4 = .ok (.aload_n 0, 1) := by decide +kernel
theorem dBA_init_5 : decode cBA_init 5 = .ok (.iconst 0, 1) := by decide +kernel
theorem dBA_init_6 : decode cBA_init 6 = .ok (.putfield 9, 3) := by decide +kernel
theorem dBA_init_9 : decode cBA_init 9 = .ok (.aload_n 0, 1) := by decide +kernel
theorem dBA_init_10 : decode cBA_init 10 = .ok (.aload_n 1, 1) := by decide +kernel
theorem dBA_init_11 : decode cBA_init 11 = .ok (.putfield 15, 3) := by decide +kernel
theorem dBA_init_14 : decode cBA_init 14 = .ok (.aload_n 0, 1) := by decide +kernel
theorem dBA_init_15 : decode cBA_init 15 = .ok (.iload_n 2, 1) := by decide +kernel
theorem dBA_init_16 : decode cBA_init 16 = .ok (.putfield 19, 3) := by decide +kernel
theorem dBA_init_19 : decode cBA_init 19 = .ok (.aload_n 0, 1) := by decide +kernel
theorem dBA_init_20 : decode cBA_init 20 = .ok (.iload_n 2, 1) := by decide +kernel
theorem dBA_init_21 : decode cBA_init 21 = .ok (.ldc 24, 2) := by decide +kernel
theorem dBA_init_23 : decode cBA_init 23 = .ok (.imul, 1) := by decide +kernel
theorem dBA_init_24 : decode cBA_init 24 = .ok (.putfield 25, 3) := by decide +kernel
theorem dBA_init_27 : decode cBA_init 27 = .ok (.aload_n 0, 1) := by decide +kernel
theorem dBA_init_28 : decode cBA_init 28 = .ok (.aload_n 1, 1) := by decide +kernel
theorem dBA_init_29 : decode cBA_init 29 = .ok (.getfield 28, 3) := by decide +kernel
theorem dBA_init_32 : decode cBA_init 32 = .ok (.iconst 2, 1) := by decide +kernel
theorem dBA_init_33 : decode cBA_init 33 = .ok (.iload_n 2, 1) := by decide +kernel
theorem dBA_init_34 : decode cBA_init 34 = .ok (.imul, 1) := by decide +kernel
theorem dBA_init_35 : decode cBA_init 35 = .ok (.iadd, 1) := by decide +kernel
theorem dBA_init_36 : decode cBA_init 36 = .ok (.putfield 33, 3) := by decide +kernel
theorem dBA_init_39 : decode cBA_init 39 = .ok (.aload_n 0, 1) := by decide +kernel
theorem dBA_init_40 : decode cBA_init 40 = .ok (.new 36, 3) := by decide +kernel
theorem dBA_init_43 : decode cBA_init 43 = .ok (.dup, 1) := by decide +kernel
theorem dBA_init_44 : decode cBA_init 44 = .ok (.iload_n 2, 1) := by decide +kernel
theorem dBA_init_45 : decode cBA_init 45 = .ok (.aload_n 0, 1) := by decide +kernel
theorem dBA_init_46 : decode cBA_init 46 = .ok (.getfield 33, 3) := by decide +kernel
theorem dBA_init_49 : decode cBA_init 49 = .ok (.invokespecial 38, 3) := by decide +kernel
theorem dBA_init_52 : decode cBA_init 52 = .ok (.putfield 41, 3) := by decide +kernel
theorem dBA_init_55 : decode cBA_init 55 = .ok (.aload_n 0, 1) := by decide +kernel
theorem dBA_init_56 : decode cBA_init 56 = .ok (.aload_n 1, 1) := by decide +kernel
theorem dBA_init_57 : decode cBA_init 57 = .ok (.getfield 45, 3) := by decide +kernel
theorem dBA_init_60 : decode cBA_init 60 = .ok (.newarray .int, 2) := by decide +kernel
theorem dBA_init_62 : decode cBA_init 62 = .ok (.putfield 48, 3) := by decide +kernel
theorem dBA_init_65 : decode cBA_init 65 = .ok (.aload_n 0, 1) := by decide +kernel
theorem dBA_init_66 : decode cBA_init 66 = .ok (.aload_n 1, 1) := by decide +kernel
theorem dBA_init_67 : decode cBA_init 67 = .ok (.getfield 45, 3) := by decide +kernel
theorem dBA_init_70 : decode cBA_init 70 = .ok (.newarray .int, 2) := by decide +kernel
theorem dBA_init_72 : decode cBA_init 72 = .ok (.putfield 52, 3) := by decide +kernel
theorem dBA_init_75 : decode cBA_init 75 = .ok (.aload_n 0, 1) := by decide +kernel
theorem dBA_init_76 : decode cBA_init 76 = .ok (.aload_n 1, 1) := by decide +kernel
theorem dBA_init_77 : decode cBA_init 77 = .ok (.getfield 45, 3) := by decide +kernel
theorem dBA_init_80 : decode cBA_init 80 = .ok (.newarray .int, 2) := by decide +kernel
theorem dBA_init_82 : decode cBA_init 82 = .ok (.putfield 55, 3) := by decide +kernel
theorem dBA_init_85 : decode cBA_init 85 = .ok (.aload_n 0, 1) := by decide +kernel
theorem dBA_init_86 : decode cBA_init 86 = .ok (.aload_n 0, 1) := by decide +kernel
theorem dBA_init_87 : decode cBA_init 87 = .ok (.getfield 33, 3) := by decide +kernel
theorem dBA_init_90 : decode cBA_init 90 = .ok (.aload_n 1, 1) := by decide +kernel
theorem dBA_init_91 : decode cBA_init 91 = .ok (.getfield 58, 3) := by decide +kernel
theorem dBA_init_94 : decode cBA_init 94 = .ok (.iconst 2, 1) := by decide +kernel
theorem dBA_init_95 : decode cBA_init 95 = .ok (.iload_n 2, 1) := by decide +kernel
theorem dBA_init_96 : decode cBA_init 96 = .ok (.imul, 1) := by decide +kernel
theorem dBA_init_97 : decode cBA_init 97 = .ok (.iadd, 1) := by decide +kernel
theorem dBA_init_98 : decode cBA_init 98 = .ok (.imul, 1) := by decide +kernel
theorem dBA_init_99 : decode cBA_init 99 = .ok (.newarray .int, 2) := by decide +kernel
theorem dBA_init_101 : decode cBA_init 101 = .ok (.putfield 61, 3) := by decide +kernel
theorem dBA_init_104 : decode cBA_init 104 = .ok (.aload_n 0, 1) := by decide +kernel
theorem dBA_init_105 : decode cBA_init 105 = .ok (.aload_n 0, 1) := by decide +kernel
theorem dBA_init_106 : decode cBA_init 106 = .ok (.getfield 61, 3) := by decide +kernel
theorem dBA_init_109 : decode cBA_init 109 = .ok (.arraylength, 1) := by decide +kernel
theorem dBA_init_110 : decode cBA_init 110 = .ok (.newarray .int, 2) := by decide +kernel
theorem dBA_init_112 : decode cBA_init 112 = .ok (.putfield 64, 3) := by decide +kernel
theorem dBA_init_115 : decode cBA_init 115 = .ok (.aload_n 0, 1) := by decide +kernel
theorem dBA_init_116 : decode cBA_init 116 = .ok (.aload_n 0, 1) := by decide +kernel
theorem dBA_init_117 : decode cBA_init 117 = .ok (.getfield 61, 3) := by decide +kernel
theorem dBA_init_120 : decode cBA_init 120 = .ok (.arraylength, 1) := by decide +kernel
theorem dBA_init_121 : decode cBA_init 121 = .ok (.newarray .int, 2) := by decide +kernel
theorem dBA_init_123 : decode cBA_init 123 = .ok (.putfield 67, 3) := by decide +kernel
theorem dBA_init_126 : decode cBA_init 126 = .ok (.aload_n 0, 1) := by decide +kernel
theorem dBA_init_127 : decode cBA_init 127 = .ok (.getfield 61, 3) := by decide +kernel
theorem dBA_init_130 : decode cBA_init 130 = .ok (.aload_n 0, 1) := by decide +kernel
theorem dBA_init_131 : decode cBA_init 131 = .ok (.getfield 25, 3) := by decide +kernel
theorem dBA_init_134 : decode cBA_init 134 = .ok (.invokestatic 70, 3) := by decide +kernel
theorem dBA_init_137 : decode cBA_init 137 = .ok (.aload_n 0, 1) := by decide +kernel
theorem dBA_init_138 : decode cBA_init 138 = .ok (.getfield 64, 3) := by decide +kernel
theorem dBA_init_141 : decode cBA_init 141 = .ok (.iconst (-1), 1) := by decide +kernel
theorem dBA_init_142 : decode cBA_init 142 = .ok (.invokestatic 70, 3) := by decide +kernel
theorem dBA_init_145 : decode cBA_init 145 = .ok (.iconst 0, 1) := by decide +kernel
theorem dBA_init_146 : decode cBA_init 146 = .ok (.istore_n 3, 1) := by decide +kernel
theorem dBA_init_147 : decode cBA_init 147 = .ok (.iload_n 3, 1) := by decide +kernel
theorem dBA_init_148 : decode cBA_init 148 = .ok (.aload_n 1, 1) := by decide +kernel
theorem dBA_init_149 : decode cBA_init 149 = .ok (.getfield 45, 3) := by decide +kernel
theorem dBA_init_152 : decode cBA_init 152 = .ok (.if_icmp .ge 58, 3) := by decide +kernel
theorem dBA_init_155 : decode cBA_init 155 = .ok (.aload_n 0, 1) := by decide +kernel
theorem dBA_init_156 : decode cBA_init 156 = .ok (.aload_n 1, 1) := by decide +kernel
theorem dBA_init_157 : decode cBA_init 157 = .ok (.getfield 76, 3) := by decide +kernel
theorem dBA_init_160 : decode cBA_init 160 = .ok (.iload_n 3, 1) := by decide +kernel
theorem dBA_init_161 : decode cBA_init 161 = .ok (.iaload, 1) := by decide +kernel
theorem dBA_init_162 : decode cBA_init 162 = .ok (.aload_n 1, 1) := by decide +kernel
theorem dBA_init_163 : decode cBA_init 163 = .ok (.getfield 79, 3) := by decide +kernel
theorem dBA_init_166 : decode cBA_init 166 = .ok (.iload_n 3, 1) := by decide +kernel
theorem dBA_init_167 : decode cBA_init 167 = .ok (.iaload, 1) := by decide +kernel
theorem dBA_init_168 : decode cBA_init 168 = .ok (.invokevirtual 82, 3) := by decide +kernel
theorem dBA_init_171 : decode cBA_init 171 = .ok (.istore 4, 2) := by decide +kernel
theorem dBA_init_173 : decode cBA_init 173 = .ok (.aload_n 0, 1) := by decide +kernel
theorem dBA_init_174 : decode cBA_init 174 = .ok (.getfield 48, 3) := by decide +kernel
theorem dBA_init_177 : decode cBA_init 177 = .ok (.iload_n 3, 1) := by decide +kernel
theorem dBA_init_178 : decode cBA_init 178 = .ok (.iload 4, 2) := by decide +kernel
theorem dBA_init_180 : decode cBA_init 180 = .ok (.iastore, 1) := by decide +kernel
theorem dBA_init_181 : decode cBA_init 181 = .ok (.aload_n 0, 1) := by decide +kernel
theorem dBA_init_182 : decode cBA_init 182 = .ok (.getfield 64, 3) := by decide +kernel
theorem dBA_init_185 : decode cBA_init 185 = .ok (.iload 4, 2) := by decide +kernel
theorem dBA_init_187 : decode cBA_init 187 = .ok (.iload_n 3, 1) := by decide +kernel
theorem dBA_init_188 : decode cBA_init 188 = .ok (.iastore, 1) := by decide +kernel
theorem dBA_init_189 : decode cBA_init 189 = .ok (.aload_n 0, 1) := by decide +kernel
theorem dBA_init_190 : decode cBA_init 190 = .ok (.getfield 67, 3) := by decide +kernel
theorem dBA_init_193 : decode cBA_init 193 = .ok (.iload 4, 2) := by decide +kernel
theorem dBA_init_195 : decode cBA_init 195 = .ok (.iconst 1, 1) := by decide +kernel
theorem dBA_init_196 : decode cBA_init 196 = .ok (.iastore, 1) := by decide +kernel
theorem dBA_init_197 : decode cBA_init 197 = .ok (.aload_n 0, 1) := by decide +kernel
theorem dBA_init_198 : decode cBA_init 198 = .ok (.getfield 52, 3) := by decide +kernel
theorem dBA_init_201 : decode cBA_init 201 = .ok (.iload_n 3, 1) := by decide +kernel
theorem dBA_init_202 : decode cBA_init 202 = .ok (.iconst 1, 1) := by decide +kernel
theorem dBA_init_203 : decode cBA_init 203 = .ok (.iastore, 1) := by decide +kernel
theorem dBA_init_204 : decode cBA_init 204 = .ok (.iinc 3 1, 3) := by decide +kernel
theorem dBA_init_207 : decode cBA_init 207 = .ok (.goto (-60), 3) := by decide +kernel
theorem dBA_init_210 : decode cBA_init 210 = .ok (.return_, 1) := by decide +kernel
theorem dBA_restAt_0 : decode cBA_restAt 0 = .ok (.aload_n 0, 1) := by decide +kernel
theorem dBA_restAt_1 : decode cBA_restAt 1 = .ok (.getfield 61, 3) := by decide +kernel
theorem dBA_restAt_4 : decode cBA_restAt 4 = .ok (.aload_n 0, 1) := by decide +kernel
theorem dBA_restAt_5 : decode cBA_restAt 5 = .ok (.iload_n 1, 1) := by decide +kernel
theorem dBA_restAt_6 : decode cBA_restAt 6 = .ok (.iload_n 2, 1) := by decide +kernel
theorem dBA_restAt_7 : decode cBA_restAt 7 = .ok (.invokevirtual 82, 3) := by decide +kernel
theorem dBA_restAt_10 : decode cBA_restAt 10 = .ok (.iaload, 1) := by decide +kernel
theorem dBA_restAt_11 : decode cBA_restAt 11 = .ok (.ireturn, 1) := by decide +kernel
theorem dBA_countTouched_0 : decode cBA_countTouched 0 = .ok (.aload_n 0, 1) := by decide +kernel
theorem dBA_countTouched_1 : decode cBA_countTouched 1 = .ok (.getfield 67, 3) := by decide +kernel
theorem dBA_countTouched_4 : decode cBA_countTouched 4 = .ok (.aload_n 0, 1) := by decide +kernel
theorem dBA_countTouched_5 : decode cBA_countTouched 5 = .ok (.iload_n 1, 1) := by decide +kernel
theorem dBA_countTouched_6 : decode cBA_countTouched 6 = .ok (.iload_n 2, 1) := by decide +kernel
theorem dBA_countTouched_7 : decode cBA_countTouched 7 = .ok (.invokevirtual 82, 3) := by decide +kernel
theorem dBA_countTouched_10 : decode cBA_countTouched 10 = .ok (.iaload, 1) := by decide +kernel
theorem dBA_countTouched_11 : decode cBA_countTouched 11 = .ok (.ireturn, 1) := by decide +kernel
theorem dBA_listTouched_0 : decode cBA_listTouched 0 = .ok (.aload_n 0, 1) := by decide +kernel
theorem dBA_listTouched_1 : decode cBA_listTouched 1 = .ok (.aload_n 0, 1) := by decide +kernel
theorem dBA_listTouched_2 : decode cBA_listTouched 2 = .ok (.getfield 15, 3) := by decide +kernel
theorem dBA_listTouched_5 : decode cBA_listTouched 5 = .ok (.getfield 86, 3) := by decide +kernel
theorem dBA_listTouched_8 : decode cBA_listTouched 8 = .ok (.iload_n 1, 1) := by decide +kernel
theorem dBA_listTouched_9 : decode cBA_listTouched 9 = .ok (.iload_n 2, 1) := by decide +kernel
theorem dBA_listTouched_10 : decode cBA_listTouched 10 = .ok (.aload_n 0, 1) := by decide +kernel
theorem dBA_listTouched_11 : decode cBA_listTouched 11 = .ok (.iload_n 1, 1) := by decide +kernel
theorem dBA_listTouched_12 : decode cBA_listTouched 12 = .ok (.iload_n 2, 1) := by decide +kernel
theorem dBA_listTouched_13 : decode cBA_listTouched 13 = .ok (.invokevirtual 89, 3) := by decide +kernel
theorem dBA_listTouched_16 : decode cBA_listTouched 16 = .ok (.invokevirtual 92, 3) := by decide +kernel
theorem dBA_listTouched_19 : decode cBA_listTouched 19 = .ok (.pop, 1) := by decide +kernel
theorem dBA_listTouched_20 : decode cBA_listTouched 20 = .ok (.return_, 1) := by decide +kernel
theorem dBA_isSafe_0 : decode cBA_isSafe 0 = .ok (.aload_n 0, 1) := by decide +kernel
theorem dBA_isSafe_1 : decode cBA_isSafe 1 = .ok (.getfield 52, 3) := by decide +kernel
theorem dBA_isSafe_4 : decode cBA_isSafe 4 = .ok (.iload_n 1, 1) := by decide +kernel
theorem dBA_isSafe_5 : decode cBA_isSafe 5 = .ok (.iaload, 1) := by decide +kernel
theorem dBA_isSafe_6 : decode cBA_isSafe 6 = .ok (.ifCond .ne 7, 3) := by decide +kernel
theorem dBA_isSafe_9 : decode cBA_isSafe 9 = .ok (.iconst 1, 1) := by decide +kernel
theorem dBA_isSafe_10 : decode cBA_isSafe 10 = .ok (.goto 4, 3) := by decide +kernel
theorem dBA_isSafe_13 : decode cBA_isSafe 13 = .ok (.iconst 0, 1) := by decide +kernel
theorem dBA_isSafe_14 : decode cBA_isSafe 14 = .ok (.ireturn, 1) := by decide +kernel
theorem dBA_countHighestPlaces_0 : decode cBA_countHighestPlaces 0 = .ok (.iconst 0, 1) := by decide +kernel
theorem dBA_countHighestPlaces_1 : decode cBA_countHighestPlaces 1 = .ok (.istore_n 1, 1) := by decide +kernel
theorem dBA_countHighestPlaces_2 : decode cBA_countHighestPlaces 2 = .ok (.iconst 0, 1) := by decide +kernel
theorem dBA_countHighestPlaces_3 : decode cBA_countHighestPlaces 3 = .ok (.istore_n 2, 1) := by decide +kernel
end
section
theorem dBA_countHighestPlaces_4 : decode cBA_countHighestPlaces 4 = .ok (.aload_n 0, 1) := by decide +kernel
theorem dBA_countHighestPlaces_5 : decode cBA_countHighestPlaces 5 = .ok (.getfield 61, 3) := by decide +kernel
theorem dBA_countHighestPlaces_8 : decode cBA_countHighestPlaces 8 = .ok (.astore_n 3, 1) := by decide +kernel
theorem dBA_countHighestPlaces_9 : decode cBA_countHighestPlaces 9 = .ok (.aload_n 3, 1) := by decide +kernel
theorem dBA_countHighestPlaces_10 : decode cBA_countHighestPlaces 10 = .ok (.arraylength, 1) := by decide +kernel
theorem dBA_countHighestPlaces_11 : decode cBA_countHighestPlaces 11 = .ok (.istore 4, 2) := by decide +kernel
theorem dBA_countHighestPlaces_13 : decode cBA_countHighestPlaces 13 = .ok (.iconst 0, 1) := by decide +kernel
theorem dBA_countHighestPlaces_14 : decode cBA_countHighestPlaces 14 = .ok (.istore 5, 2) := by decide +kernel
theorem dBA_countHighestPlaces_16 : decode cBA_countHighestPlaces 16 = .ok (.iload 5, 2) := by decide +kernel
theorem dBA_countHighestPlaces_18 : decode cBA_countHighestPlaces 18 = .ok (.iload 4, 2) := by decide +kernel
theorem dBA_countHighestPlaces_20 : decode cBA_countHighestPlaces 20 = .ok (.if_icmp .ge 35, 3) := by decide +kernel
theorem dBA_countHighestPlaces_23 : decode cBA_countHighestPlaces 23 = .ok (.aload_n 3, 1) := by decide +kernel
theorem dBA_countHighestPlaces_24 : decode cBA_countHighestPlaces 24 = .ok (.iload 5, 2) := by decide +kernel
theorem dBA_countHighestPlaces_26 : decode cBA_countHighestPlaces 26 = .ok (.iaload, 1) := by decide +kernel
theorem dBA_countHighestPlaces_27 : decode cBA_countHighestPlaces 27 = .ok (.istore 6, 2) := by decide +kernel
theorem dBA_countHighestPlaces_29 : decode cBA_countHighestPlaces 29 = .ok (.iload 6, 2) := by decide +kernel
theorem dBA_countHighestPlaces_31 : decode cBA_countHighestPlaces 31 = .ok (.iload_n 1, 1) := by decide +kernel
theorem dBA_countHighestPlaces_32 : decode cBA_countHighestPlaces 32 = .ok (.if_icmp .le 8, 3) := by decide +kernel
theorem dBA_countHighestPlaces_35 : decode cBA_countHighestPlaces 35 = .ok (.iload 6, 2) := by decide +kernel
theorem dBA_countHighestPlaces_37 : decode cBA_countHighestPlaces 37 = .ok (.istore_n 1, 1) := by decide +kernel
theorem dBA_countHighestPlaces_38 : decode cBA_countHighestPlaces 38 = .ok (.iconst 0, 1) := by decide +kernel
theorem dBA_countHighestPlaces_39 : decode cBA_countHighestPlaces 39 = .ok (.istore_n 2, 1) := by decide +kernel
theorem dBA_countHighestPlaces_40 : decode cBA_countHighestPlaces 40 = .ok (.iload 6, 2) := by decide +kernel
theorem dBA_countHighestPlaces_42 : decode cBA_countHighestPlaces 42 = .ok (.iload_n 1, 1) := by decide +kernel
theorem dBA_countHighestPlaces_43 : decode cBA_countHighestPlaces 43 = .ok (.if_icmp .ne 6, 3) := by decide +kernel
theorem dBA_countHighestPlaces_46 : decode cBA_countHighestPlaces 46 = .ok (.iinc 2 1, 3) := by decide +kernel
theorem dBA_countHighestPlaces_49 : decode cBA_countHighestPlaces 49 = .ok (.iinc 5 1, 3) := by decide +kernel
theorem dBA_countHighestPlaces_52 : decode cBA_countHighestPlaces 52 = .ok (.goto (-36), 3) := by decide +kernel
theorem dBA_countHighestPlaces_55 : decode cBA_countHighestPlaces 55 = .ok (.iload_n 2, 1) := by decide +kernel
theorem dBA_countHighestPlaces_56 : decode cBA_countHighestPlaces 56 = .ok (.ireturn, 1) := by decide +kernel
theorem dBA_coverOf_0 : decode cBA_coverOf 0 = .ok (.aload_n 0, 1) := by decide +kernel
theorem dBA_coverOf_1 : decode cBA_coverOf 1 = .ok (.getfield 48, 3) := by decide +kernel
theorem dBA_coverOf_4 : decode cBA_coverOf 4 = .ok (.iload_n 1, 1) := by decide +kernel
theorem dBA_coverOf_5 : decode cBA_coverOf 5 = .ok (.iaload, 1) := by decide +kernel
theorem dBA_coverOf_6 : decode cBA_coverOf 6 = .ok (.istore_n 2, 1) := by decide +kernel
theorem dBA_coverOf_7 : decode cBA_coverOf 7 = .ok (.aload_n 0, 1) := by decide +kernel
theorem dBA_coverOf_8 : decode cBA_coverOf 8 = .ok (.getfield 61, 3) := by decide +kernel
theorem dBA_coverOf_11 : decode cBA_coverOf 11 = .ok (.iload_n 2, 1) := by decide +kernel
theorem dBA_coverOf_12 : decode cBA_coverOf 12 = .ok (.iaload, 1) := by decide +kernel
theorem dBA_coverOf_13 : decode cBA_coverOf 13 = .ok (.aload_n 0, 1) := by decide +kernel
theorem dBA_coverOf_14 : decode cBA_coverOf 14 = .ok (.getfield 25, 3) := by decide +kernel
theorem dBA_coverOf_17 : decode cBA_coverOf 17 = .ok (.isub, 1) := by decide +kernel
theorem dBA_coverOf_18 : decode cBA_coverOf 18 = .ok (.istore_n 3, 1) := by decide +kernel
theorem dBA_coverOf_19 : decode cBA_coverOf 19 = .ok (.iconst 0, 1) := by decide +kernel
theorem dBA_coverOf_20 : decode cBA_coverOf 20 = .ok (.istore 4, 2) := by decide +kernel
theorem dBA_coverOf_22 : decode cBA_coverOf 22 = .ok (.iload 4, 2) := by decide +kernel
theorem dBA_coverOf_24 : decode cBA_coverOf 24 = .ok (.aload_n 0, 1) := by decide +kernel
theorem dBA_coverOf_25 : decode cBA_coverOf 25 = .ok (.getfield 41, 3) := by decide +kernel
theorem dBA_coverOf_28 : decode cBA_coverOf 28 = .ok (.getfield 96, 3) := by decide +kernel
theorem dBA_coverOf_31 : decode cBA_coverOf 31 = .ok (.if_icmp .ge 42, 3) := by decide +kernel
theorem dBA_coverOf_34 : decode cBA_coverOf 34 = .ok (.iload_n 3, 1) := by decide +kernel
theorem dBA_coverOf_35 : decode cBA_coverOf 35 = .ok (.aload_n 0, 1) := by decide +kernel
theorem dBA_coverOf_36 : decode cBA_coverOf 36 = .ok (.getfield 61, 3) := by decide +kernel
theorem dBA_coverOf_39 : decode cBA_coverOf 39 = .ok (.iload_n 2, 1) := by decide +kernel
theorem dBA_coverOf_40 : decode cBA_coverOf 40 = .ok (.aload_n 0, 1) := by decide +kernel
theorem dBA_coverOf_41 : decode cBA_coverOf 41 = .ok (.getfield 41, 3) := by decide +kernel
theorem dBA_coverOf_44 : decode cBA_coverOf 44 = .ok (.getfield 99, 3) := by decide +kernel
theorem dBA_coverOf_47 : decode cBA_coverOf 47 = .ok (.iload 4, 2) := by decide +kernel
theorem dBA_coverOf_49 : decode cBA_coverOf 49 = .ok (.iaload, 1) := by decide +kernel
theorem dBA_coverOf_50 : decode cBA_coverOf 50 = .ok (.iadd, 1) := by decide +kernel
theorem dBA_coverOf_51 : decode cBA_coverOf 51 = .ok (.iaload, 1) := by decide +kernel
theorem dBA_coverOf_52 : decode cBA_coverOf 52 = .ok (.aload_n 0, 1) := by decide +kernel
theorem dBA_coverOf_53 : decode cBA_coverOf 53 = .ok (.getfield 41, 3) := by decide +kernel
theorem dBA_coverOf_56 : decode cBA_coverOf 56 = .ok (.getfield 102, 3) := by decide +kernel
theorem dBA_coverOf_59 : decode cBA_coverOf 59 = .ok (.iload 4, 2) := by decide +kernel
theorem dBA_coverOf_61 : decode cBA_coverOf 61 = .ok (.iaload, 1) := by decide +kernel
theorem dBA_coverOf_62 : decode cBA_coverOf 62 = .ok (.isub, 1) := by decide +kernel
theorem dBA_coverOf_63 : decode cBA_coverOf 63 = .ok (.invokestatic 105, 3) := by decide +kernel
theorem dBA_coverOf_66 : decode cBA_coverOf 66 = .ok (.istore_n 3, 1) := by decide +kernel
theorem dBA_coverOf_67 : decode cBA_coverOf 67 = .ok (.iinc 4 1, 3) := by decide +kernel
theorem dBA_coverOf_70 : decode cBA_coverOf 70 = .ok (.goto (-48), 3) := by decide +kernel
theorem dBA_coverOf_73 : decode cBA_coverOf 73 = .ok (.iload_n 3, 1) := by decide +kernel
theorem dBA_coverOf_74 : decode cBA_coverOf 74 = .ok (.ireturn, 1) := by decide +kernel
theorem dBA_moveTip_0 : decode cBA_moveTip 0 = .ok (.aload_n 0, 1) := by decide +kernel
theorem dBA_moveTip_1 : decode cBA_moveTip 1 = .ok (.getfield 15, 3) := by decide +kernel
theorem dBA_moveTip_4 : decode cBA_moveTip 4 = .ok (.getfield 86, 3) := by decide +kernel
theorem dBA_moveTip_7 : decode cBA_moveTip 7 = .ok (.iload_n 1, 1) := by decide +kernel
theorem dBA_moveTip_8 : decode cBA_moveTip 8 = .ok (.iaload, 1) := by decide +kernel
theorem dBA_moveTip_9 : decode cBA_moveTip 9 = .ok (.istore_n 3, 1) := by decide +kernel
theorem dBA_moveTip_10 : decode cBA_moveTip 10 = .ok (.iload_n 2, 1) := by decide +kernel
theorem dBA_moveTip_11 : decode cBA_moveTip 11 = .ok (.iload_n 3, 1) := by decide +kernel
theorem dBA_moveTip_12 : decode cBA_moveTip 12 = .ok (.if_icmp .le 9, 3) := by decide +kernel
theorem dBA_moveTip_15 : decode cBA_moveTip 15 = .ok (.aload_n 0, 1) := by decide +kernel
theorem dBA_moveTip_16 : decode cBA_moveTip 16 = .ok (.iload_n 1, 1) := by decide +kernel
theorem dBA_moveTip_17 : decode cBA_moveTip 17 = .ok (.iload_n 2, 1) := by decide +kernel
theorem dBA_moveTip_18 : decode cBA_moveTip 18 = .ok (.invokevirtual 110, 3) := by decide +kernel
theorem dBA_moveTip_21 : decode cBA_moveTip 21 = .ok (.iload_n 2, 1) := by decide +kernel
theorem dBA_moveTip_22 : decode cBA_moveTip 22 = .ok (.iload_n 3, 1) := by decide +kernel
theorem dBA_moveTip_23 : decode cBA_moveTip 23 = .ok (.if_icmp .ge 9, 3) := by decide +kernel
theorem dBA_moveTip_26 : decode cBA_moveTip 26 = .ok (.aload_n 0, 1) := by decide +kernel
theorem dBA_moveTip_27 : decode cBA_moveTip 27 = .ok (.iload_n 1, 1) := by decide +kernel
theorem dBA_moveTip_28 : decode cBA_moveTip 28 = .ok (.iload_n 2, 1) := by decide +kernel
theorem dBA_moveTip_29 : decode cBA_moveTip 29 = .ok (.invokevirtual 113, 3) := by decide +kernel
theorem dBA_moveTip_32 : decode cBA_moveTip 32 = .ok (.return_, 1) := by decide +kernel
theorem dBA_raiseTip_0 : decode cBA_raiseTip 0 = .ok (.aload_n 0, 1) := by decide +kernel
theorem dBA_raiseTip_1 : decode cBA_raiseTip 1 = .ok (.getfield 41, 3) := by decide +kernel
theorem dBA_raiseTip_4 : decode cBA_raiseTip 4 = .ok (.getfield 99, 3) := by decide +kernel
theorem dBA_raiseTip_7 : decode cBA_raiseTip 7 = .ok (.astore_n 3, 1) := by decide +kernel
theorem dBA_raiseTip_8 : decode cBA_raiseTip 8 = .ok (.aload_n 0, 1) := by decide +kernel
theorem dBA_raiseTip_9 : decode cBA_raiseTip 9 = .ok (.getfield 41, 3) := by decide +kernel
theorem dBA_raiseTip_12 : decode cBA_raiseTip 12 = .ok (.getfield 102, 3) := by decide +kernel
theorem dBA_raiseTip_15 : decode cBA_raiseTip 15 = .ok (.astore 4, 2) := by decide +kernel
theorem dBA_raiseTip_17 : decode cBA_raiseTip 17 = .ok (.aload_n 0, 1) := by decide +kernel
theorem dBA_raiseTip_18 : decode cBA_raiseTip 18 = .ok (.getfield 48, 3) := by decide +kernel
theorem dBA_raiseTip_21 : decode cBA_raiseTip 21 = .ok (.iload_n 1, 1) := by decide +kernel
theorem dBA_raiseTip_22 : decode cBA_raiseTip 22 = .ok (.iaload, 1) := by decide +kernel
theorem dBA_raiseTip_23 : decode cBA_raiseTip 23 = .ok (.istore 5, 2) := by decide +kernel
theorem dBA_raiseTip_25 : decode cBA_raiseTip 25 = .ok (.iconst 0, 1) := by decide +kernel
theorem dBA_raiseTip_26 : decode cBA_raiseTip 26 = .ok (.istore 6, 2) := by decide +kernel
theorem dBA_raiseTip_28 : decode cBA_raiseTip 28 = .ok (.iload 6, 2) := by decide +kernel
theorem dBA_raiseTip_30 : decode cBA_raiseTip 30 = .ok (.aload_n 0, 1) := by decide +kernel
theorem dBA_raiseTip_31 : decode cBA_raiseTip 31 = .ok (.getfield 41, 3) := by decide +kernel
theorem dBA_raiseTip_34 : decode cBA_raiseTip 34 = .ok (.getfield 96, 3) := by decide +kernel
theorem dBA_raiseTip_37 : decode cBA_raiseTip 37 = .ok (.if_icmp .ge 152, 3) := by decide +kernel
theorem dBA_raiseTip_40 : decode cBA_raiseTip 40 = .ok (.iload_n 2, 1) := by decide +kernel
theorem dBA_raiseTip_41 : decode cBA_raiseTip 41 = .ok (.aload 4, 2) := by decide +kernel
theorem dBA_raiseTip_43 : decode cBA_raiseTip 43 = .ok (.iload 6, 2) := by decide +kernel
theorem dBA_raiseTip_45 : decode cBA_raiseTip 45 = .ok (.iaload, 1) := by decide +kernel
theorem dBA_raiseTip_46 : decode cBA_raiseTip 46 = .ok (.iadd, 1) := by decide +kernel
theorem dBA_raiseTip_47 : decode cBA_raiseTip 47 = .ok (.aload_n 0, 1) := by decide +kernel
theorem dBA_raiseTip_48 : decode cBA_raiseTip 48 = .ok (.getfield 25, 3) := by decide +kernel
theorem dBA_raiseTip_51 : decode cBA_raiseTip 51 = .ok (.if_icmp .lt 138, 3) := by decide +kernel
theorem dBA_raiseTip_54 : decode cBA_raiseTip 54 = .ok (.iload 5, 2) := by decide +kernel
theorem dBA_raiseTip_56 : decode cBA_raiseTip 56 = .ok (.aload_n 3, 1) := by decide +kernel
theorem dBA_raiseTip_57 : decode cBA_raiseTip 57 = .ok (.iload 6, 2) := by decide +kernel
theorem dBA_raiseTip_59 : decode cBA_raiseTip 59 = .ok (.iaload, 1) := by decide +kernel
theorem dBA_raiseTip_60 : decode cBA_raiseTip 60 = .ok (.iadd, 1) := by decide +kernel
theorem dBA_raiseTip_61 : decode cBA_raiseTip 61 = .ok (.istore 7, 2) := by decide +kernel
theorem dBA_raiseTip_63 : decode cBA_raiseTip 63 = .ok (.iload_n 2, 1) := by decide +kernel
theorem dBA_raiseTip_64 : decode cBA_raiseTip 64 = .ok (.aload 4, 2) := by decide +kernel
theorem dBA_raiseTip_66 : decode cBA_raiseTip 66 = .ok (.iload 6, 2) := by decide +kernel
theorem dBA_raiseTip_68 : decode cBA_raiseTip 68 = .ok (.iaload, 1) := by decide +kernel
theorem dBA_raiseTip_69 : decode cBA_raiseTip 69 = .ok (.iadd, 1) := by decide +kernel
theorem dBA_raiseTip_70 : decode cBA_raiseTip 70 = .ok (.istore 8, 2) := by decide +kernel
theorem dBA_raiseTip_72 : decode cBA_raiseTip 72 = .ok (.iload 8, 2) := by decide +kernel
theorem dBA_raiseTip_74 : decode cBA_raiseTip 74 = .ok (.aload_n 0, 1) := by decide +kernel
theorem dBA_raiseTip_75 : decode cBA_raiseTip 75 = .ok (.getfield 61, 3) := by decide +kernel
theorem dBA_raiseTip_78 : decode cBA_raiseTip 78 = .ok (.iload 7, 2) := by decide +kernel
theorem dBA_raiseTip_80 : decode cBA_raiseTip 80 = .ok (.iaload, 1) := by decide +kernel
theorem dBA_raiseTip_81 : decode cBA_raiseTip 81 = .ok (.if_icmp .ge 6, 3) := by decide +kernel
theorem dBA_raiseTip_84 : decode cBA_raiseTip 84 = .ok (.goto 99, 3) := by decide +kernel
theorem dBA_raiseTip_87 : decode cBA_raiseTip 87 = .ok (.iload 8, 2) := by decide +kernel
theorem dBA_raiseTip_89 : decode cBA_raiseTip 89 = .ok (.aload_n 0, 1) := by decide +kernel
theorem dBA_raiseTip_90 : decode cBA_raiseTip 90 = .ok (.getfield 61, 3) := by decide +kernel
theorem dBA_raiseTip_93 : decode cBA_raiseTip 93 = .ok (.iload 7, 2) := by decide +kernel
theorem dBA_raiseTip_95 : decode cBA_raiseTip 95 = .ok (.iaload, 1) := by decide +kernel
theorem dBA_raiseTip_96 : decode cBA_raiseTip 96 = .ok (.if_icmp .le 58, 3) := by decide +kernel
theorem dBA_raiseTip_99 : decode cBA_raiseTip 99 = .ok (.aload_n 0, 1) := by decide +kernel
theorem dBA_raiseTip_100 : decode cBA_raiseTip 100 = .ok (.iload 7, 2) := by decide +kernel
theorem dBA_raiseTip_102 : decode cBA_raiseTip 102 = .ok (.aload_n 0, 1) := by decide +kernel
theorem dBA_raiseTip_103 : decode cBA_raiseTip 103 = .ok (.getfield 15, 3) := by decide +kernel
theorem dBA_raiseTip_106 : decode cBA_raiseTip 106 = .ok (.getfield 76, 3) := by decide +kernel
theorem dBA_raiseTip_109 : decode cBA_raiseTip 109 = .ok (.iload_n 1, 1) := by decide +kernel
theorem dBA_raiseTip_110 : decode cBA_raiseTip 110 = .ok (.iaload, 1) := by decide +kernel
theorem dBA_raiseTip_111 : decode cBA_raiseTip 111 = .ok (.aload_n 0, 1) := by decide +kernel
theorem dBA_raiseTip_112 : decode cBA_raiseTip 112 = .ok (.getfield 41, 3) := by decide +kernel
theorem dBA_raiseTip_115 : decode cBA_raiseTip 115 = .ok (.getfield 116, 3) := by decide +kernel
theorem dBA_raiseTip_118 : decode cBA_raiseTip 118 = .ok (.iload 6, 2) := by decide +kernel
theorem dBA_raiseTip_120 : decode cBA_raiseTip 120 = .ok (.iaload, 1) := by decide +kernel
theorem dBA_raiseTip_121 : decode cBA_raiseTip 121 = .ok (.iadd, 1) := by decide +kernel
theorem dBA_raiseTip_122 : decode cBA_raiseTip 122 = .ok (.aload_n 0, 1) := by decide +kernel
theorem dBA_raiseTip_123 : decode cBA_raiseTip 123 = .ok (.getfield 15, 3) := by decide +kernel
theorem dBA_raiseTip_126 : decode cBA_raiseTip 126 = .ok (.getfield 79, 3) := by decide +kernel
theorem dBA_raiseTip_129 : decode cBA_raiseTip 129 = .ok (.iload_n 1, 1) := by decide +kernel
theorem dBA_raiseTip_130 : decode cBA_raiseTip 130 = .ok (.iaload, 1) := by decide +kernel
theorem dBA_raiseTip_131 : decode cBA_raiseTip 131 = .ok (.aload_n 0, 1) := by decide +kernel
theorem dBA_raiseTip_132 : decode cBA_raiseTip 132 = .ok (.getfield 41, 3) := by decide +kernel
theorem dBA_raiseTip_135 : decode cBA_raiseTip 135 = .ok (.getfield 119, 3) := by decide +kernel
theorem dBA_raiseTip_138 : decode cBA_raiseTip 138 = .ok (.iload 6, 2) := by decide +kernel
theorem dBA_raiseTip_140 : decode cBA_raiseTip 140 = .ok (.iaload, 1) := by decide +kernel
theorem dBA_raiseTip_141 : decode cBA_raiseTip 141 = .ok (.iadd, 1) := by decide +kernel
theorem dBA_raiseTip_142 : decode cBA_raiseTip 142 = .ok (.invokevirtual 122, 3) := by decide +kernel
theorem dBA_raiseTip_145 : decode cBA_raiseTip 145 = .ok (.aload_n 0, 1) := by decide +kernel
theorem dBA_raiseTip_146 : decode cBA_raiseTip 146 = .ok (.getfield 61, 3) := by decide +kernel
theorem dBA_raiseTip_149 : decode cBA_raiseTip 149 = .ok (.iload 7, 2) := by decide +kernel
theorem dBA_raiseTip_151 : decode cBA_raiseTip 151 = .ok (.iload 8, 2) := by decide +kernel
theorem dBA_raiseTip_153 : decode cBA_raiseTip 153 = .ok (.iastore, 1) := by decide +kernel
theorem dBA_raiseTip_154 : decode cBA_raiseTip 154 = .ok (.aload_n 0, 1) := by decide +kernel
theorem dBA_raiseTip_155 : decode cBA_raiseTip 155 = .ok (.getfield 64, 3) := by decide +kernel
theorem dBA_raiseTip_158 : decode cBA_raiseTip 158 = .ok (.iload 7, 2) := by decide +kernel
theorem dBA_raiseTip_160 : decode cBA_raiseTip 160 = .ok (.iload_n 1, 1) := by decide +kernel
theorem dBA_raiseTip_161 : decode cBA_raiseTip 161 = .ok (.iastore, 1) := by decide +kernel
theorem dBA_raiseTip_162 : decode cBA_raiseTip 162 = .ok (.aload_n 0, 1) := by decide +kernel
theorem dBA_raiseTip_163 : decode cBA_raiseTip 163 = .ok (.getfield 67, 3) := by decide +kernel
theorem dBA_raiseTip_166 : decode cBA_raiseTip 166 = .ok (.iload 7, 2) := by decide +kernel
theorem dBA_raiseTip_168 : decode cBA_raiseTip 168 = .ok (.dup2, 1) := by decide +kernel
theorem dBA_raiseTip_169 : decode cBA_raiseTip 169 = .ok (.iaload, 1) := by decide +kernel
theorem dBA_raiseTip_170 : decode cBA_raiseTip 170 = .ok (.iconst 1, 1) := by decide +kernel
theorem dBA_raiseTip_171 : decode cBA_raiseTip 171 = .ok (.iadd, 1) := by decide +kernel
theorem dBA_raiseTip_172 : decode cBA_raiseTip 172 = .ok (.iastore, 1) := by decide +kernel
theorem dBA_raiseTip_173 : decode cBA_raiseTip 173 = .ok (.aload_n 0, 1) := by decide +kernel
theorem dBA_raiseTip_174 : decode cBA_raiseTip 174 = .ok (.getfield 52, 3) := by decide +kernel
theorem dBA_raiseTip_177 : decode cBA_raiseTip 177 = .ok (.iload_n 1, 1) := by decide +kernel
theorem dBA_raiseTip_178 : decode cBA_raiseTip 178 = .ok (.dup2, 1) := by decide +kernel
theorem dBA_raiseTip_179 : decode cBA_raiseTip 179 = .ok (.iaload, 1) := by decide +kernel
theorem dBA_raiseTip_180 : decode cBA_raiseTip 180 = .ok (.iconst 1, 1) := by decide +kernel
theorem dBA_raiseTip_181 : decode cBA_raiseTip 181 = .ok (.iadd, 1) := by decide +kernel
theorem dBA_raiseTip_182 : decode cBA_raiseTip 182 = .ok (.iastore, 1) := by decide +kernel
theorem dBA_raiseTip_183 : decode cBA_raiseTip 183 = .ok (.iinc 6 1, 3) := by decide +kernel
theorem dBA_raiseTip_186 : decode cBA_raiseTip 186 = .ok (.goto (-158), 3) := by decide +kernel
theorem dBA_raiseTip_189 : decode cBA_raiseTip 189 = .ok (.aload_n 0, 1) := by decide +kernel
theorem dBA_raiseTip_190 : decode cBA_raiseTip 190 = .ok (.getfield 15, 3) := by decide +kernel
theorem dBA_raiseTip_193 : decode cBA_raiseTip 193 = .ok (.iload_n 1, 1) := by decide +kernel
theorem dBA_raiseTip_194 : decode cBA_raiseTip 194 = .ok (.iload_n 2, 1) := by decide +kernel
theorem dBA_raiseTip_195 : decode cBA_raiseTip 195 = .ok (.invokevirtual 126, 3) := by decide +kernel
theorem dBA_raiseTip_198 : decode cBA_raiseTip 198 = .ok (.return_, 1) := by decide +kernel
theorem dBA_leave_0 : decode cBA_leave 0 = .ok (.aload_n 0, 1) := by decide +kernel
theorem dBA_leave_1 : decode cBA_leave 1 = .ok (.getfield 64, 3) := by decide +kernel
theorem dBA_leave_4 : decode cBA_leave 4 = .ok (.iload_n 1, 1) := by decide +kernel
theorem dBA_leave_5 : decode cBA_leave 5 = .ok (.iaload, 1) := by decide +kernel
theorem dBA_leave_6 : decode cBA_leave 6 = .ok (.istore 4, 2) := by decide +kernel
theorem dBA_leave_8 : decode cBA_leave 8 = .ok (.iload 4, 2) := by decide +kernel
theorem dBA_leave_10 : decode cBA_leave 10 = .ok (.iconst (-1), 1) := by decide +kernel
theorem dBA_leave_11 : decode cBA_leave 11 = .ok (.if_icmp .ne 4, 3) := by decide +kernel
theorem dBA_leave_14 : decode cBA_leave 14 = .ok (.return_, 1) := by decide +kernel
theorem dBA_leave_15 : decode cBA_leave 15 = .ok (.aload_n 0, 1) := by decide +kernel
theorem dBA_leave_16 : decode cBA_leave 16 = .ok (.getfield 67, 3) := by decide +kernel
theorem dBA_leave_19 : decode cBA_leave 19 = .ok (.iload_n 1, 1) := by decide +kernel
theorem dBA_leave_20 : decode cBA_leave 20 = .ok (.iaload, 1) := by decide +kernel
theorem dBA_leave_21 : decode cBA_leave 21 = .ok (.iconst 1, 1) := by decide +kernel
theorem dBA_leave_22 : decode cBA_leave 22 = .ok (.if_icmp .ne 17, 3) := by decide +kernel
theorem dBA_leave_25 : decode cBA_leave 25 = .ok (.aload_n 0, 1) := by decide +kernel
theorem dBA_leave_26 : decode cBA_leave 26 = .ok (.getfield 52, 3) := by decide +kernel
theorem dBA_leave_29 : decode cBA_leave 29 = .ok (.iload 4, 2) := by decide +kernel
theorem dBA_leave_31 : decode cBA_leave 31 = .ok (.dup2, 1) := by decide +kernel
theorem dBA_leave_32 : decode cBA_leave 32 = .ok (.iaload, 1) := by decide +kernel
theorem dBA_leave_33 : decode cBA_leave 33 = .ok (.iconst 1, 1) := by decide +kernel
theorem dBA_leave_34 : decode cBA_leave 34 = .ok (.isub, 1) := by decide +kernel
theorem dBA_leave_35 : decode cBA_leave 35 = .ok (.iastore, 1) := by decide +kernel
theorem dBA_leave_36 : decode cBA_leave 36 = .ok (.goto 28, 3) := by decide +kernel
theorem dBA_leave_39 : decode cBA_leave 39 = .ok (.aload_n 0, 1) := by decide +kernel
theorem dBA_leave_40 : decode cBA_leave 40 = .ok (.aload_n 0, 1) := by decide +kernel
theorem dBA_leave_41 : decode cBA_leave 41 = .ok (.getfield 15, 3) := by decide +kernel
theorem dBA_leave_44 : decode cBA_leave 44 = .ok (.getfield 86, 3) := by decide +kernel
theorem dBA_leave_47 : decode cBA_leave 47 = .ok (.iload_n 2, 1) := by decide +kernel
theorem dBA_leave_48 : decode cBA_leave 48 = .ok (.iload_n 3, 1) := by decide +kernel
theorem dBA_leave_49 : decode cBA_leave 49 = .ok (.aload_n 0, 1) := by decide +kernel
theorem dBA_leave_50 : decode cBA_leave 50 = .ok (.getfield 61, 3) := by decide +kernel
theorem dBA_leave_53 : decode cBA_leave 53 = .ok (.iload_n 1, 1) := by decide +kernel
theorem dBA_leave_54 : decode cBA_leave 54 = .ok (.iaload, 1) := by decide +kernel
theorem dBA_leave_55 : decode cBA_leave 55 = .ok (.invokevirtual 92, 3) := by decide +kernel
theorem dBA_leave_58 : decode cBA_leave 58 = .ok (.pop, 1) := by decide +kernel
theorem dBA_leave_59 : decode cBA_leave 59 = .ok (.aload_n 0, 1) := by decide +kernel
theorem dBA_leave_60 : decode cBA_leave 60 = .ok (.iconst (-1), 1) := by decide +kernel
theorem dBA_leave_61 : decode cBA_leave 61 = .ok (.invokevirtual 129, 3) := by decide +kernel
theorem dBA_leave_64 : decode cBA_leave 64 = .ok (.aload_n 0, 1) := by decide +kernel
theorem dBA_leave_65 : decode cBA_leave 65 = .ok (.getfield 67, 3) := by decide +kernel
theorem dBA_leave_68 : decode cBA_leave 68 = .ok (.iload_n 1, 1) := by decide +kernel
theorem dBA_leave_69 : decode cBA_leave 69 = .ok (.iconst 0, 1) := by decide +kernel
theorem dBA_leave_70 : decode cBA_leave 70 = .ok (.iastore, 1) := by decide +kernel
theorem dBA_leave_71 : decode cBA_leave 71 = .ok (.return_, 1) := by decide +kernel
theorem dBA_lowerTip_0 : decode cBA_lowerTip 0 = .ok (.aload_n 0, 1) := by decide +kernel
theorem dBA_lowerTip_1 : decode cBA_lowerTip 1 = .ok (.getfield 41, 3) := by decide +kernel
theorem dBA_lowerTip_4 : decode cBA_lowerTip 4 = .ok (.getfield 99, 3) := by decide +kernel
theorem dBA_lowerTip_7 : decode cBA_lowerTip 7 = .ok (.astore_n 3, 1) := by decide +kernel
theorem dBA_lowerTip_8 : decode cBA_lowerTip 8 = .ok (.aload_n 0, 1) := by decide +kernel
theorem dBA_lowerTip_9 : decode cBA_lowerTip 9 = .ok (.getfield 41, 3) := by decide +kernel
theorem dBA_lowerTip_12 : decode cBA_lowerTip 12 = .ok (.getfield 102, 3) := by decide +kernel
theorem dBA_lowerTip_15 : decode cBA_lowerTip 15 = .ok (.astore 4, 2) := by decide +kernel
theorem dBA_lowerTip_17 : decode cBA_lowerTip 17 = .ok (.aload_n 0, 1) := by decide +kernel
theorem dBA_lowerTip_18 : decode cBA_lowerTip 18 = .ok (.getfield 15, 3) := by decide +kernel
theorem dBA_lowerTip_21 : decode cBA_lowerTip 21 = .ok (.getfield 86, 3) := by decide +kernel
theorem dBA_lowerTip_24 : decode cBA_lowerTip 24 = .ok (.iload_n 1, 1) := by decide +kernel
theorem dBA_lowerTip_25 : decode cBA_lowerTip 25 = .ok (.iaload, 1) := by decide +kernel
theorem dBA_lowerTip_26 : decode cBA_lowerTip 26 = .ok (.istore 5, 2) := by decide +kernel
theorem dBA_lowerTip_28 : decode cBA_lowerTip 28 = .ok (.aload_n 0, 1) := by decide +kernel
theorem dBA_lowerTip_29 : decode cBA_lowerTip 29 = .ok (.getfield 48, 3) := by decide +kernel
theorem dBA_lowerTip_32 : decode cBA_lowerTip 32 = .ok (.iload_n 1, 1) := by decide +kernel
theorem dBA_lowerTip_33 : decode cBA_lowerTip 33 = .ok (.iaload, 1) := by decide +kernel
theorem dBA_lowerTip_34 : decode cBA_lowerTip 34 = .ok (.istore 6, 2) := by decide +kernel
theorem dBA_lowerTip_36 : decode cBA_lowerTip 36 = .ok (.aload_n 0, 1) := by decide +kernel
theorem dBA_lowerTip_37 : decode cBA_lowerTip 37 = .ok (.getfield 52, 3) := by decide +kernel
theorem dBA_lowerTip_40 : decode cBA_lowerTip 40 = .ok (.iload_n 1, 1) := by decide +kernel
theorem dBA_lowerTip_41 : decode cBA_lowerTip 41 = .ok (.iaload, 1) := by decide +kernel
theorem dBA_lowerTip_42 : decode cBA_lowerTip 42 = .ok (.istore 7, 2) := by decide +kernel
theorem dBA_lowerTip_44 : decode cBA_lowerTip 44 = .ok (.aload_n 0, 1) := by decide +kernel
theorem dBA_lowerTip_45 : decode cBA_lowerTip 45 = .ok (.getfield 15, 3) := by decide +kernel
theorem dBA_lowerTip_48 : decode cBA_lowerTip 48 = .ok (.iload_n 1, 1) := by decide +kernel
theorem dBA_lowerTip_49 : decode cBA_lowerTip 49 = .ok (.iload_n 2, 1) := by decide +kernel
theorem dBA_lowerTip_50 : decode cBA_lowerTip 50 = .ok (.invokevirtual 126, 3) := by decide +kernel
theorem dBA_lowerTip_53 : decode cBA_lowerTip 53 = .ok (.iconst 0, 1) := by decide +kernel
theorem dBA_lowerTip_54 : decode cBA_lowerTip 54 = .ok (.istore 8, 2) := by decide +kernel
theorem dBA_lowerTip_56 : decode cBA_lowerTip 56 = .ok (.iload 8, 2) := by decide +kernel
theorem dBA_lowerTip_58 : decode cBA_lowerTip 58 = .ok (.aload_n 0, 1) := by decide +kernel
theorem dBA_lowerTip_59 : decode cBA_lowerTip 59 = .ok (.getfield 41, 3) := by decide +kernel
theorem dBA_lowerTip_62 : decode cBA_lowerTip 62 = .ok (.getfield 96, 3) := by decide +kernel
theorem dBA_lowerTip_65 : decode cBA_lowerTip 65 = .ok (.if_icmp .ge 100, 3) := by decide +kernel
theorem dBA_lowerTip_68 : decode cBA_lowerTip 68 = .ok (.iload 7, 2) := by decide +kernel
theorem dBA_lowerTip_70 : decode cBA_lowerTip 70 = .ok (.ifCond .le 95, 3) := by decide +kernel
theorem dBA_lowerTip_73 : decode cBA_lowerTip 73 = .ok (.iload 6, 2) := by decide +kernel
theorem dBA_lowerTip_75 : decode cBA_lowerTip 75 = .ok (.aload_n 3, 1) := by decide +kernel
theorem dBA_lowerTip_76 : decode cBA_lowerTip 76 = .ok (.iload 8, 2) := by decide +kernel
theorem dBA_lowerTip_78 : decode cBA_lowerTip 78 = .ok (.iaload, 1) := by decide +kernel
theorem dBA_lowerTip_79 : decode cBA_lowerTip 79 = .ok (.iadd, 1) := by decide +kernel
theorem dBA_lowerTip_80 : decode cBA_lowerTip 80 = .ok (.istore 9, 2) := by decide +kernel
theorem dBA_lowerTip_82 : decode cBA_lowerTip 82 = .ok (.iload 5, 2) := by decide +kernel
theorem dBA_lowerTip_84 : decode cBA_lowerTip 84 = .ok (.aload 4, 2) := by decide +kernel
theorem dBA_lowerTip_86 : decode cBA_lowerTip 86 = .ok (.iload 8, 2) := by decide +kernel
theorem dBA_lowerTip_88 : decode cBA_lowerTip 88 = .ok (.iaload, 1) := by decide +kernel
theorem dBA_lowerTip_89 : decode cBA_lowerTip 89 = .ok (.iadd, 1) := by decide +kernel
theorem dBA_lowerTip_90 : decode cBA_lowerTip 90 = .ok (.aload_n 0, 1) := by decide +kernel
theorem dBA_lowerTip_91 : decode cBA_lowerTip 91 = .ok (.getfield 61, 3) := by decide +kernel
theorem dBA_lowerTip_94 : decode cBA_lowerTip 94 = .ok (.iload 9, 2) := by decide +kernel
theorem dBA_lowerTip_96 : decode cBA_lowerTip 96 = .ok (.iaload, 1) := by decide +kernel
theorem dBA_lowerTip_97 : decode cBA_lowerTip 97 = .ok (.if_icmp .ne 62, 3) := by decide +kernel
theorem dBA_lowerTip_100 : decode cBA_lowerTip 100 = .ok (.iinc 7 (-1), 3) := by decide +kernel
theorem dBA_lowerTip_103 : decode cBA_lowerTip 103 = .ok (.aload_n 0, 1) := by decide +kernel
theorem dBA_lowerTip_104 : decode cBA_lowerTip 104 = .ok (.getfield 52, 3) := by decide +kernel
theorem dBA_lowerTip_107 : decode cBA_lowerTip 107 = .ok (.iload_n 1, 1) := by decide +kernel
theorem dBA_lowerTip_108 : decode cBA_lowerTip 108 = .ok (.dup2, 1) := by decide +kernel
theorem dBA_lowerTip_109 : decode cBA_lowerTip 109 = .ok (.iaload, 1) := by decide +kernel
theorem dBA_lowerTip_110 : decode cBA_lowerTip 110 = .ok (.iconst 1, 1) := by decide +kernel
theorem dBA_lowerTip_111 : decode cBA_lowerTip 111 = .ok (.isub, 1) := by decide +kernel
theorem dBA_lowerTip_112 : decode cBA_lowerTip 112 = .ok (.iastore, 1) := by decide +kernel
theorem dBA_lowerTip_113 : decode cBA_lowerTip 113 = .ok (.aload_n 0, 1) := by decide +kernel
theorem dBA_lowerTip_114 : decode cBA_lowerTip 114 = .ok (.iload 9, 2) := by decide +kernel
theorem dBA_lowerTip_116 : decode cBA_lowerTip 116 = .ok (.aload_n 0, 1) := by decide +kernel
theorem dBA_lowerTip_117 : decode cBA_lowerTip 117 = .ok (.getfield 15, 3) := by decide +kernel
theorem dBA_lowerTip_120 : decode cBA_lowerTip 120 = .ok (.getfield 76, 3) := by decide +kernel
theorem dBA_lowerTip_123 : decode cBA_lowerTip 123 = .ok (.iload_n 1, 1) := by decide +kernel
theorem dBA_lowerTip_124 : decode cBA_lowerTip 124 = .ok (.iaload, 1) := by decide +kernel
theorem dBA_lowerTip_125 : decode cBA_lowerTip 125 = .ok (.aload_n 0, 1) := by decide +kernel
theorem dBA_lowerTip_126 : decode cBA_lowerTip 126 = .ok (.getfield 41, 3) := by decide +kernel
theorem dBA_lowerTip_129 : decode cBA_lowerTip 129 = .ok (.getfield 116, 3) := by decide +kernel
theorem dBA_lowerTip_132 : decode cBA_lowerTip 132 = .ok (.iload 8, 2) := by decide +kernel
theorem dBA_lowerTip_134 : decode cBA_lowerTip 134 = .ok (.iaload, 1) := by decide +kernel
theorem dBA_lowerTip_135 : decode cBA_lowerTip 135 = .ok (.iadd, 1) := by decide +kernel
theorem dBA_lowerTip_136 : decode cBA_lowerTip 136 = .ok (.aload_n 0, 1) := by decide +kernel
theorem dBA_lowerTip_137 : decode cBA_lowerTip 137 = .ok (.getfield 15, 3) := by decide +kernel
theorem dBA_lowerTip_140 : decode cBA_lowerTip 140 = .ok (.getfield 79, 3) := by decide +kernel
theorem dBA_lowerTip_143 : decode cBA_lowerTip 143 = .ok (.iload_n 1, 1) := by decide +kernel
theorem dBA_lowerTip_144 : decode cBA_lowerTip 144 = .ok (.iaload, 1) := by decide +kernel
theorem dBA_lowerTip_145 : decode cBA_lowerTip 145 = .ok (.aload_n 0, 1) := by decide +kernel
theorem dBA_lowerTip_146 : decode cBA_lowerTip 146 = .ok (.getfield 41, 3) := by decide +kernel
theorem dBA_lowerTip_149 : decode cBA_lowerTip 149 = .ok (.getfield 119, 3) := by decide +kernel
theorem dBA_lowerTip_152 : decode cBA_lowerTip 152 = .ok (.iload 8, 2) := by decide +kernel
theorem dBA_lowerTip_154 : decode cBA_lowerTip 154 = .ok (.iaload, 1) := by decide +kernel
theorem dBA_lowerTip_155 : decode cBA_lowerTip 155 = .ok (.iadd, 1) := by decide +kernel
theorem dBA_lowerTip_156 : decode cBA_lowerTip 156 = .ok (.invokevirtual 133, 3) := by decide +kernel
theorem dBA_lowerTip_159 : decode cBA_lowerTip 159 = .ok (.iinc 8 1, 3) := by decide +kernel
theorem dBA_lowerTip_162 : decode cBA_lowerTip 162 = .ok (.goto (-106), 3) := by decide +kernel
theorem dBA_lowerTip_165 : decode cBA_lowerTip 165 = .ok (.return_, 1) := by decide +kernel
theorem dBA_settle_0 : decode cBA_settle 0 = .ok (.aload_n 0, 1) := by decide +kernel
theorem dBA_settle_1 : decode cBA_settle 1 = .ok (.getfield 67, 3) := by decide +kernel
theorem dBA_settle_4 : decode cBA_settle 4 = .ok (.iload_n 1, 1) := by decide +kernel
theorem dBA_settle_5 : decode cBA_settle 5 = .ok (.iaload, 1) := by decide +kernel
theorem dBA_settle_6 : decode cBA_settle 6 = .ok (.iconst 1, 1) := by decide +kernel
theorem dBA_settle_7 : decode cBA_settle 7 = .ok (.if_icmp .le 26, 3) := by decide +kernel
theorem dBA_settle_10 : decode cBA_settle 10 = .ok (.aload_n 0, 1) := by decide +kernel
theorem dBA_settle_11 : decode cBA_settle 11 = .ok (.aload_n 0, 1) := by decide +kernel
theorem dBA_settle_12 : decode cBA_settle 12 = .ok (.getfield 15, 3) := by decide +kernel
theorem dBA_settle_15 : decode cBA_settle 15 = .ok (.getfield 86, 3) := by decide +kernel
theorem dBA_settle_18 : decode cBA_settle 18 = .ok (.iload_n 2, 1) := by decide +kernel
theorem dBA_settle_19 : decode cBA_settle 19 = .ok (.iload_n 3, 1) := by decide +kernel
theorem dBA_settle_20 : decode cBA_settle 20 = .ok (.aload_n 0, 1) := by decide +kernel
theorem dBA_settle_21 : decode cBA_settle 21 = .ok (.getfield 61, 3) := by decide +kernel
theorem dBA_settle_24 : decode cBA_settle 24 = .ok (.iload_n 1, 1) := by decide +kernel
theorem dBA_settle_25 : decode cBA_settle 25 = .ok (.iaload, 1) := by decide +kernel
theorem dBA_settle_26 : decode cBA_settle 26 = .ok (.invokevirtual 92, 3) := by decide +kernel
theorem dBA_settle_29 : decode cBA_settle 29 = .ok (.pop, 1) := by decide +kernel
theorem dBA_settle_30 : decode cBA_settle 30 = .ok (.goto 31, 3) := by decide +kernel
theorem dBA_settle_33 : decode cBA_settle 33 = .ok (.aload_n 0, 1) := by decide +kernel
theorem dBA_settle_34 : decode cBA_settle 34 = .ok (.getfield 61, 3) := by decide +kernel
theorem dBA_settle_37 : decode cBA_settle 37 = .ok (.iload_n 1, 1) := by decide +kernel
theorem dBA_settle_38 : decode cBA_settle 38 = .ok (.aload_n 0, 1) := by decide +kernel
theorem dBA_settle_39 : decode cBA_settle 39 = .ok (.aload_n 0, 1) := by decide +kernel
theorem dBA_settle_40 : decode cBA_settle 40 = .ok (.getfield 15, 3) := by decide +kernel
theorem dBA_settle_43 : decode cBA_settle 43 = .ok (.getfield 86, 3) := by decide +kernel
theorem dBA_settle_46 : decode cBA_settle 46 = .ok (.iload_n 2, 1) := by decide +kernel
theorem dBA_settle_47 : decode cBA_settle 47 = .ok (.iload_n 3, 1) := by decide +kernel
theorem dBA_settle_48 : decode cBA_settle 48 = .ok (.aload_n 0, 1) := by decide +kernel
theorem dBA_settle_49 : decode cBA_settle 49 = .ok (.getfield 25, 3) := by decide +kernel
theorem dBA_settle_52 : decode cBA_settle 52 = .ok (.invokevirtual 92, 3) := by decide +kernel
theorem dBA_settle_55 : decode cBA_settle 55 = .ok (.iastore, 1) := by decide +kernel
theorem dBA_settle_56 : decode cBA_settle 56 = .ok (.aload_n 0, 1) := by decide +kernel
theorem dBA_settle_57 : decode cBA_settle 57 = .ok (.iconst 1, 1) := by decide +kernel
theorem dBA_settle_58 : decode cBA_settle 58 = .ok (.invokevirtual 129, 3) := by decide +kernel
theorem dBA_settle_61 : decode cBA_settle 61 = .ok (.aload_n 0, 1) := by decide +kernel
theorem dBA_settle_62 : decode cBA_settle 62 = .ok (.getfield 67, 3) := by decide +kernel
theorem dBA_settle_65 : decode cBA_settle 65 = .ok (.iload_n 1, 1) := by decide +kernel
theorem dBA_settle_66 : decode cBA_settle 66 = .ok (.aload_n 0, 1) := by decide +kernel
theorem dBA_settle_67 : decode cBA_settle 67 = .ok (.getfield 9, 3) := by decide +kernel
theorem dBA_settle_70 : decode cBA_settle 70 = .ok (.iastore, 1) := by decide +kernel
theorem dBA_settle_71 : decode cBA_settle 71 = .ok (.aload_n 0, 1) := by decide +kernel
theorem dBA_settle_72 : decode cBA_settle 72 = .ok (.getfield 64, 3) := by decide +kernel
theorem dBA_settle_75 : decode cBA_settle 75 = .ok (.iload_n 1, 1) := by decide +kernel
theorem dBA_settle_76 : decode cBA_settle 76 = .ok (.aload_n 0, 1) := by decide +kernel
theorem dBA_settle_77 : decode cBA_settle 77 = .ok (.getfield 9, 3) := by decide +kernel
theorem dBA_settle_80 : decode cBA_settle 80 = .ok (.ifCond .le 12, 3) := by decide +kernel
theorem dBA_settle_83 : decode cBA_settle 83 = .ok (.aload_n 0, 1) := by decide +kernel
theorem dBA_settle_84 : decode cBA_settle 84 = .ok (.getfield 55, 3) := by decide +kernel
theorem dBA_settle_87 : decode cBA_settle 87 = .ok (.iconst 0, 1) := by decide +kernel
theorem dBA_settle_88 : decode cBA_settle 88 = .ok (.iaload, 1) := by decide +kernel
theorem dBA_settle_89 : decode cBA_settle 89 = .ok (.goto 4, 3) := by decide +kernel
theorem dBA_settle_92 : decode cBA_settle 92 = .ok (.iconst (-1), 1) := by decide +kernel
theorem dBA_settle_93 : decode cBA_settle 93 = .ok (.iastore, 1) := by decide +kernel
theorem dBA_settle_94 : decode cBA_settle 94 = .ok (.return_, 1) := by decide +kernel
theorem dBA_countListed_0 : decode cBA_countListed 0 = .ok (.iconst 0, 1) := by decide +kernel
theorem dBA_countListed_1 : decode cBA_countListed 1 = .ok (.istore_n 2, 1) := by decide +kernel
theorem dBA_countListed_2 : decode cBA_countListed 2 = .ok (.iload_n 2, 1) := by decide +kernel
theorem dBA_countListed_3 : decode cBA_countListed 3 = .ok (.aload_n 0, 1) := by decide +kernel
theorem dBA_countListed_4 : decode cBA_countListed 4 = .ok (.getfield 9, 3) := by decide +kernel
theorem dBA_countListed_7 : decode cBA_countListed 7 = .ok (.if_icmp .ge 24, 3) := by decide +kernel
theorem dBA_countListed_10 : decode cBA_countListed 10 = .ok (.aload_n 0, 1) := by decide +kernel
theorem dBA_countListed_11 : decode cBA_countListed 11 = .ok (.getfield 52, 3) := by decide +kernel
theorem dBA_countListed_14 : decode cBA_countListed 14 = .ok (.aload_n 0, 1) := by decide +kernel
theorem dBA_countListed_15 : decode cBA_countListed 15 = .ok (.getfield 55, 3) := by decide +kernel
theorem dBA_countListed_18 : decode cBA_countListed 18 = .ok (.iload_n 2, 1) := by decide +kernel
theorem dBA_countListed_19 : decode cBA_countListed 19 = .ok (.iaload, 1) := by decide +kernel
theorem dBA_countListed_20 : decode cBA_countListed 20 = .ok (.dup2, 1) := by decide +kernel
theorem dBA_countListed_21 : decode cBA_countListed 21 = .ok (.iaload, 1) := by decide +kernel
theorem dBA_countListed_22 : decode cBA_countListed 22 = .ok (.iload_n 1, 1) := by decide +kernel
theorem dBA_countListed_23 : decode cBA_countListed 23 = .ok (.iadd, 1) := by decide +kernel
theorem dBA_countListed_24 : decode cBA_countListed 24 = .ok (.iastore, 1) := by decide +kernel
theorem dBA_countListed_25 : decode cBA_countListed 25 = .ok (.iinc 2 1, 3) := by decide +kernel
theorem dBA_countListed_28 : decode cBA_countListed 28 = .ok (.goto (-26), 3) := by decide +kernel
theorem dBA_countListed_31 : decode cBA_countListed 31 = .ok (.return_, 1) := by decide +kernel
theorem dBA_liftOver_0 : decode cBA_liftOver 0 = .ok (.aload_n 0, 1) := by decide +kernel
theorem dBA_liftOver_1 : decode cBA_liftOver 1 = .ok (.getfield 15, 3) := by decide +kernel
theorem dBA_liftOver_4 : decode cBA_liftOver 4 = .ok (.getfield 76, 3) := by decide +kernel
theorem dBA_liftOver_7 : decode cBA_liftOver 7 = .ok (.iload_n 1, 1) := by decide +kernel
theorem dBA_liftOver_8 : decode cBA_liftOver 8 = .ok (.iaload, 1) := by decide +kernel
theorem dBA_liftOver_9 : decode cBA_liftOver 9 = .ok (.iload_n 2, 1) := by decide +kernel
theorem dBA_liftOver_10 : decode cBA_liftOver 10 = .ok (.isub, 1) := by decide +kernel
theorem dBA_liftOver_11 : decode cBA_liftOver 11 = .ok (.aload_n 0, 1) := by decide +kernel
theorem dBA_liftOver_12 : decode cBA_liftOver 12 = .ok (.getfield 19, 3) := by decide +kernel
theorem dBA_liftOver_15 : decode cBA_liftOver 15 = .ok (.iadd, 1) := by decide +kernel
theorem dBA_liftOver_16 : decode cBA_liftOver 16 = .ok (.istore 4, 2) := by decide +kernel
theorem dBA_liftOver_18 : decode cBA_liftOver 18 = .ok (.aload_n 0, 1) := by decide +kernel
theorem dBA_liftOver_19 : decode cBA_liftOver 19 = .ok (.getfield 15, 3) := by decide +kernel
theorem dBA_liftOver_22 : decode cBA_liftOver 22 = .ok (.getfield 79, 3) := by decide +kernel
theorem dBA_liftOver_25 : decode cBA_liftOver 25 = .ok (.iload_n 1, 1) := by decide +kernel
theorem dBA_liftOver_26 : decode cBA_liftOver 26 = .ok (.iaload, 1) := by decide +kernel
theorem dBA_liftOver_27 : decode cBA_liftOver 27 = .ok (.iload_n 3, 1) := by decide +kernel
theorem dBA_liftOver_28 : decode cBA_liftOver 28 = .ok (.isub, 1) := by decide +kernel
theorem dBA_liftOver_29 : decode cBA_liftOver 29 = .ok (.aload_n 0, 1) := by decide +kernel
theorem dBA_liftOver_30 : decode cBA_liftOver 30 = .ok (.getfield 19, 3) := by decide +kernel
theorem dBA_liftOver_33 : decode cBA_liftOver 33 = .ok (.iadd, 1) := by decide +kernel
theorem dBA_liftOver_34 : decode cBA_liftOver 34 = .ok (.istore 5, 2) := by decide +kernel
theorem dBA_liftOver_36 : decode cBA_liftOver 36 = .ok (.iload 4, 2) := by decide +kernel
theorem dBA_liftOver_38 : decode cBA_liftOver 38 = .ok (.ifCond .lt 36, 3) := by decide +kernel
theorem dBA_liftOver_41 : decode cBA_liftOver 41 = .ok (.iload 4, 2) := by decide +kernel
theorem dBA_liftOver_43 : decode cBA_liftOver 43 = .ok (.aload_n 0, 1) := by decide +kernel
theorem dBA_liftOver_44 : decode cBA_liftOver 44 = .ok (.getfield 41, 3) := by decide +kernel
theorem dBA_liftOver_47 : decode cBA_liftOver 47 = .ok (.getfield 136, 3) := by decide +kernel
theorem dBA_liftOver_50 : decode cBA_liftOver 50 = .ok (.if_icmp .ge 24, 3) := by decide +kernel
theorem dBA_liftOver_53 : decode cBA_liftOver 53 = .ok (.iload 5, 2) := by decide +kernel
theorem dBA_liftOver_55 : decode cBA_liftOver 55 = .ok (.ifCond .lt 19, 3) := by decide +kernel
theorem dBA_liftOver_58 : decode cBA_liftOver 58 = .ok (.iload 5, 2) := by decide +kernel
theorem dBA_liftOver_60 : decode cBA_liftOver 60 = .ok (.aload_n 0, 1) := by decide +kernel
theorem dBA_liftOver_61 : decode cBA_liftOver 61 = .ok (.getfield 41, 3) := by decide +kernel
theorem dBA_liftOver_64 : decode cBA_liftOver 64 = .ok (.getfield 136, 3) := by decide +kernel
theorem dBA_liftOver_67 : decode cBA_liftOver 67 = .ok (.if_icmp .ge 7, 3) := by decide +kernel
theorem dBA_liftOver_70 : decode cBA_liftOver 70 = .ok (.iconst 1, 1) := by decide +kernel
theorem dBA_liftOver_71 : decode cBA_liftOver 71 = .ok (.goto 4, 3) := by decide +kernel
theorem dBA_liftOver_74 : decode cBA_liftOver 74 = .ok (.iconst 0, 1) := by decide +kernel
theorem dBA_liftOver_75 : decode cBA_liftOver 75 = .ok (.istore 6, 2) := by decide +kernel
theorem dBA_liftOver_77 : decode cBA_liftOver 77 = .ok (.iload 6, 2) := by decide +kernel
theorem dBA_liftOver_79 : decode cBA_liftOver 79 = .ok (.ifCond .eq 27, 3) := by decide +kernel
theorem dBA_liftOver_82 : decode cBA_liftOver 82 = .ok (.aload_n 0, 1) := by decide +kernel
theorem dBA_liftOver_83 : decode cBA_liftOver 83 = .ok (.getfield 41, 3) := by decide +kernel
theorem dBA_liftOver_86 : decode cBA_liftOver 86 = .ok (.getfield 139, 3) := by decide +kernel
theorem dBA_liftOver_89 : decode cBA_liftOver 89 = .ok (.iload 5, 2) := by decide +kernel
theorem dBA_liftOver_91 : decode cBA_liftOver 91 = .ok (.aload_n 0, 1) := by decide +kernel
theorem dBA_liftOver_92 : decode cBA_liftOver 92 = .ok (.getfield 41, 3) := by decide +kernel
theorem dBA_liftOver_95 : decode cBA_liftOver 95 = .ok (.getfield 136, 3) := by decide +kernel
theorem dBA_liftOver_98 : decode cBA_liftOver 98 = .ok (.imul, 1) := by decide +kernel
theorem dBA_liftOver_99 : decode cBA_liftOver 99 = .ok (.iload 4, 2) := by decide +kernel
theorem dBA_liftOver_101 : decode cBA_liftOver 101 = .ok (.iadd, 1) := by decide +kernel
theorem dBA_liftOver_102 : decode cBA_liftOver 102 = .ok (.iaload, 1) := by decide +kernel
theorem dBA_liftOver_103 : decode cBA_liftOver 103 = .ok (.goto 5, 3) := by decide +kernel
theorem dBA_liftOver_106 : decode cBA_liftOver 106 = .ok (.ldc 142, 2) := by decide +kernel
theorem dBA_liftOver_108 : decode cBA_liftOver 108 = .ok (.ireturn, 1) := by decide +kernel
theorem dBA_climb_0 : decode cBA_climb 0 = .ok (.aload_n 0, 1) := by decide +kernel
theorem dBA_climb_1 : decode cBA_climb 1 = .ok (.getfield 41, 3) := by decide +kernel
theorem dBA_climb_4 : decode cBA_climb 4 = .ok (.getfield 139, 3) := by decide +kernel
theorem dBA_climb_7 : decode cBA_climb 7 = .ok (.astore 5, 2) := by decide +kernel
theorem dBA_climb_9 : decode cBA_climb 9 = .ok (.aload_n 0, 1) := by decide +kernel
theorem dBA_climb_10 : decode cBA_climb 10 = .ok (.getfield 15, 3) := by decide +kernel
theorem dBA_climb_13 : decode cBA_climb 13 = .ok (.getfield 143, 3) := by decide +kernel
theorem dBA_climb_16 : decode cBA_climb 16 = .ok (.astore 6, 2) := by decide +kernel
theorem dBA_climb_18 : decode cBA_climb 18 = .ok (.aload_n 0, 1) := by decide +kernel
theorem dBA_climb_19 : decode cBA_climb 19 = .ok (.getfield 15, 3) := by decide +kernel
theorem dBA_climb_22 : decode cBA_climb 22 = .ok (.getfield 28, 3) := by decide +kernel
theorem dBA_climb_25 : decode cBA_climb 25 = .ok (.istore 7, 2) := by decide +kernel
theorem dBA_climb_27 : decode cBA_climb 27 = .ok (.aload_n 0, 1) := by decide +kernel
theorem dBA_climb_28 : decode cBA_climb 28 = .ok (.getfield 41, 3) := by decide +kernel
theorem dBA_climb_31 : decode cBA_climb 31 = .ok (.getfield 136, 3) := by decide +kernel
theorem dBA_climb_34 : decode cBA_climb 34 = .ok (.istore 8, 2) := by decide +kernel
theorem dBA_climb_36 : decode cBA_climb 36 = .ok (.iload_n 2, 1) := by decide +kernel
theorem dBA_climb_37 : decode cBA_climb 37 = .ok (.aload_n 0, 1) := by decide +kernel
theorem dBA_climb_38 : decode cBA_climb 38 = .ok (.getfield 19, 3) := by decide +kernel
theorem dBA_climb_41 : decode cBA_climb 41 = .ok (.iadd, 1) := by decide +kernel
theorem dBA_climb_42 : decode cBA_climb 42 = .ok (.iload 7, 2) := by decide +kernel
theorem dBA_climb_44 : decode cBA_climb 44 = .ok (.if_icmp .ge 12, 3) := by decide +kernel
theorem dBA_climb_47 : decode cBA_climb 47 = .ok (.iload_n 2, 1) := by decide +kernel
theorem dBA_climb_48 : decode cBA_climb 48 = .ok (.aload_n 0, 1) := by decide +kernel
theorem dBA_climb_49 : decode cBA_climb 49 = .ok (.getfield 19, 3) := by decide +kernel
theorem dBA_climb_52 : decode cBA_climb 52 = .ok (.iadd, 1) := by decide +kernel
theorem dBA_climb_53 : decode cBA_climb 53 = .ok (.goto 7, 3) := by decide +kernel
end
section
theorem dBA_climb_56 : decode cBA_climb 56 = .ok (.iload 7, 2) := by decide +kernel
theorem dBA_climb_58 : decode cBA_climb 58 = .ok (.iconst 1, 1) := by decide +kernel
theorem dBA_climb_59 : decode cBA_climb 59 = .ok (.isub, 1) := by decide +kernel
theorem dBA_climb_60 : decode cBA_climb 60 = .ok (.istore 9, 2) := by decide +kernel
theorem dBA_climb_62 : decode cBA_climb 62 = .ok (.iload_n 3, 1) := by decide +kernel
theorem dBA_climb_63 : decode cBA_climb 63 = .ok (.aload_n 0, 1) := by decide +kernel
theorem dBA_climb_64 : decode cBA_climb 64 = .ok (.getfield 19, 3) := by decide +kernel
theorem dBA_climb_67 : decode cBA_climb 67 = .ok (.iadd, 1) := by decide +kernel
theorem dBA_climb_68 : decode cBA_climb 68 = .ok (.aload_n 0, 1) := by decide +kernel
theorem dBA_climb_69 : decode cBA_climb 69 = .ok (.getfield 15, 3) := by decide +kernel
theorem dBA_climb_72 : decode cBA_climb 72 = .ok (.getfield 58, 3) := by decide +kernel
theorem dBA_climb_75 : decode cBA_climb 75 = .ok (.if_icmp .ge 12, 3) := by decide +kernel
theorem dBA_climb_78 : decode cBA_climb 78 = .ok (.iload_n 3, 1) := by decide +kernel
theorem dBA_climb_79 : decode cBA_climb 79 = .ok (.aload_n 0, 1) := by decide +kernel
theorem dBA_climb_80 : decode cBA_climb 80 = .ok (.getfield 19, 3) := by decide +kernel
theorem dBA_climb_83 : decode cBA_climb 83 = .ok (.iadd, 1) := by decide +kernel
theorem dBA_climb_84 : decode cBA_climb 84 = .ok (.goto 12, 3) := by decide +kernel
theorem dBA_climb_87 : decode cBA_climb 87 = .ok (.aload_n 0, 1) := by decide +kernel
theorem dBA_climb_88 : decode cBA_climb 88 = .ok (.getfield 15, 3) := by decide +kernel
theorem dBA_climb_91 : decode cBA_climb 91 = .ok (.getfield 58, 3) := by decide +kernel
theorem dBA_climb_94 : decode cBA_climb 94 = .ok (.iconst 1, 1) := by decide +kernel
theorem dBA_climb_95 : decode cBA_climb 95 = .ok (.isub, 1) := by decide +kernel
theorem dBA_climb_96 : decode cBA_climb 96 = .ok (.istore 10, 2) := by decide +kernel
theorem dBA_climb_98 : decode cBA_climb 98 = .ok (.iload_n 2, 1) := by decide +kernel
theorem dBA_climb_99 : decode cBA_climb 99 = .ok (.aload_n 0, 1) := by decide +kernel
theorem dBA_climb_100 : decode cBA_climb 100 = .ok (.getfield 19, 3) := by decide +kernel
theorem dBA_climb_103 : decode cBA_climb 103 = .ok (.if_icmp .le 12, 3) := by decide +kernel
theorem dBA_climb_106 : decode cBA_climb 106 = .ok (.iload_n 2, 1) := by decide +kernel
theorem dBA_climb_107 : decode cBA_climb 107 = .ok (.aload_n 0, 1) := by decide +kernel
theorem dBA_climb_108 : decode cBA_climb 108 = .ok (.getfield 19, 3) := by decide +kernel
theorem dBA_climb_111 : decode cBA_climb 111 = .ok (.isub, 1) := by decide +kernel
theorem dBA_climb_112 : decode cBA_climb 112 = .ok (.goto 4, 3) := by decide +kernel
theorem dBA_climb_115 : decode cBA_climb 115 = .ok (.iconst 0, 1) := by decide +kernel
theorem dBA_climb_116 : decode cBA_climb 116 = .ok (.istore 11, 2) := by decide +kernel
theorem dBA_climb_118 : decode cBA_climb 118 = .ok (.iload_n 3, 1) := by decide +kernel
theorem dBA_climb_119 : decode cBA_climb 119 = .ok (.aload_n 0, 1) := by decide +kernel
theorem dBA_climb_120 : decode cBA_climb 120 = .ok (.getfield 19, 3) := by decide +kernel
theorem dBA_climb_123 : decode cBA_climb 123 = .ok (.if_icmp .le 12, 3) := by decide +kernel
theorem dBA_climb_126 : decode cBA_climb 126 = .ok (.iload_n 3, 1) := by decide +kernel
theorem dBA_climb_127 : decode cBA_climb 127 = .ok (.aload_n 0, 1) := by decide +kernel
theorem dBA_climb_128 : decode cBA_climb 128 = .ok (.getfield 19, 3) := by decide +kernel
theorem dBA_climb_131 : decode cBA_climb 131 = .ok (.isub, 1) := by decide +kernel
theorem dBA_climb_132 : decode cBA_climb 132 = .ok (.goto 4, 3) := by decide +kernel
theorem dBA_climb_135 : decode cBA_climb 135 = .ok (.iconst 0, 1) := by decide +kernel
theorem dBA_climb_136 : decode cBA_climb 136 = .ok (.istore 12, 2) := by decide +kernel
theorem dBA_climb_138 : decode cBA_climb 138 = .ok (.iload_n 2, 1) := by decide +kernel
theorem dBA_climb_139 : decode cBA_climb 139 = .ok (.iload 11, 2) := by decide +kernel
theorem dBA_climb_141 : decode cBA_climb 141 = .ok (.if_icmp .ge 8, 3) := by decide +kernel
theorem dBA_climb_144 : decode cBA_climb 144 = .ok (.iload 11, 2) := by decide +kernel
theorem dBA_climb_146 : decode cBA_climb 146 = .ok (.goto 15, 3) := by decide +kernel
theorem dBA_climb_149 : decode cBA_climb 149 = .ok (.iload_n 2, 1) := by decide +kernel
theorem dBA_climb_150 : decode cBA_climb 150 = .ok (.iload 9, 2) := by decide +kernel
theorem dBA_climb_152 : decode cBA_climb 152 = .ok (.if_icmp .le 8, 3) := by decide +kernel
theorem dBA_climb_155 : decode cBA_climb 155 = .ok (.iload 9, 2) := by decide +kernel
theorem dBA_climb_157 : decode cBA_climb 157 = .ok (.goto 4, 3) := by decide +kernel
theorem dBA_climb_160 : decode cBA_climb 160 = .ok (.iload_n 2, 1) := by decide +kernel
theorem dBA_climb_161 : decode cBA_climb 161 = .ok (.istore 13, 2) := by decide +kernel
theorem dBA_climb_163 : decode cBA_climb 163 = .ok (.iload_n 3, 1) := by decide +kernel
theorem dBA_climb_164 : decode cBA_climb 164 = .ok (.iload 12, 2) := by decide +kernel
theorem dBA_climb_166 : decode cBA_climb 166 = .ok (.if_icmp .ge 8, 3) := by decide +kernel
theorem dBA_climb_169 : decode cBA_climb 169 = .ok (.iload 12, 2) := by decide +kernel
theorem dBA_climb_171 : decode cBA_climb 171 = .ok (.goto 15, 3) := by decide +kernel
theorem dBA_climb_174 : decode cBA_climb 174 = .ok (.iload_n 3, 1) := by decide +kernel
theorem dBA_climb_175 : decode cBA_climb 175 = .ok (.iload 10, 2) := by decide +kernel
theorem dBA_climb_177 : decode cBA_climb 177 = .ok (.if_icmp .le 8, 3) := by decide +kernel
theorem dBA_climb_180 : decode cBA_climb 180 = .ok (.iload 10, 2) := by decide +kernel
theorem dBA_climb_182 : decode cBA_climb 182 = .ok (.goto 4, 3) := by decide +kernel
theorem dBA_climb_185 : decode cBA_climb 185 = .ok (.iload_n 3, 1) := by decide +kernel
theorem dBA_climb_186 : decode cBA_climb 186 = .ok (.istore 14, 2) := by decide +kernel
theorem dBA_climb_188 : decode cBA_climb 188 = .ok (.aload_n 1, 1) := by decide +kernel
theorem dBA_climb_189 : decode cBA_climb 189 = .ok (.iload 14, 2) := by decide +kernel
theorem dBA_climb_191 : decode cBA_climb 191 = .ok (.iload 7, 2) := by decide +kernel
theorem dBA_climb_193 : decode cBA_climb 193 = .ok (.imul, 1) := by decide +kernel
theorem dBA_climb_194 : decode cBA_climb 194 = .ok (.iload 13, 2) := by decide +kernel
theorem dBA_climb_196 : decode cBA_climb 196 = .ok (.iadd, 1) := by decide +kernel
theorem dBA_climb_197 : decode cBA_climb 197 = .ok (.iaload, 1) := by decide +kernel
theorem dBA_climb_198 : decode cBA_climb 198 = .ok (.aload 5, 2) := by decide +kernel
theorem dBA_climb_200 : decode cBA_climb 200 = .ok (.iload 14, 2) := by decide +kernel
theorem dBA_climb_202 : decode cBA_climb 202 = .ok (.iload_n 3, 1) := by decide +kernel
theorem dBA_climb_203 : decode cBA_climb 203 = .ok (.isub, 1) := by decide +kernel
theorem dBA_climb_204 : decode cBA_climb 204 = .ok (.aload_n 0, 1) := by decide +kernel
theorem dBA_climb_205 : decode cBA_climb 205 = .ok (.getfield 19, 3) := by decide +kernel
theorem dBA_climb_208 : decode cBA_climb 208 = .ok (.iadd, 1) := by decide +kernel
theorem dBA_climb_209 : decode cBA_climb 209 = .ok (.iload 8, 2) := by decide +kernel
theorem dBA_climb_211 : decode cBA_climb 211 = .ok (.imul, 1) := by decide +kernel
theorem dBA_climb_212 : decode cBA_climb 212 = .ok (.iload 13, 2) := by decide +kernel
theorem dBA_climb_214 : decode cBA_climb 214 = .ok (.iadd, 1) := by decide +kernel
theorem dBA_climb_215 : decode cBA_climb 215 = .ok (.iload_n 2, 1) := by decide +kernel
theorem dBA_climb_216 : decode cBA_climb 216 = .ok (.isub, 1) := by decide +kernel
theorem dBA_climb_217 : decode cBA_climb 217 = .ok (.aload_n 0, 1) := by decide +kernel
theorem dBA_climb_218 : decode cBA_climb 218 = .ok (.getfield 19, 3) := by decide +kernel
theorem dBA_climb_221 : decode cBA_climb 221 = .ok (.iadd, 1) := by decide +kernel
theorem dBA_climb_222 : decode cBA_climb 222 = .ok (.iaload, 1) := by decide +kernel
theorem dBA_climb_223 : decode cBA_climb 223 = .ok (.iadd, 1) := by decide +kernel
theorem dBA_climb_224 : decode cBA_climb 224 = .ok (.istore 15, 2) := by decide +kernel
theorem dBA_climb_226 : decode cBA_climb 226 = .ok (.iload 12, 2) := by decide +kernel
theorem dBA_climb_228 : decode cBA_climb 228 = .ok (.iload_n 3, 1) := by decide +kernel
theorem dBA_climb_229 : decode cBA_climb 229 = .ok (.isub, 1) := by decide +kernel
theorem dBA_climb_230 : decode cBA_climb 230 = .ok (.aload_n 0, 1) := by decide +kernel
theorem dBA_climb_231 : decode cBA_climb 231 = .ok (.getfield 19, 3) := by decide +kernel
theorem dBA_climb_234 : decode cBA_climb 234 = .ok (.iadd, 1) := by decide +kernel
theorem dBA_climb_235 : decode cBA_climb 235 = .ok (.iload 8, 2) := by decide +kernel
theorem dBA_climb_237 : decode cBA_climb 237 = .ok (.imul, 1) := by decide +kernel
theorem dBA_climb_238 : decode cBA_climb 238 = .ok (.aload_n 0, 1) := by decide +kernel
theorem dBA_climb_239 : decode cBA_climb 239 = .ok (.getfield 19, 3) := by decide +kernel
theorem dBA_climb_242 : decode cBA_climb 242 = .ok (.iadd, 1) := by decide +kernel
theorem dBA_climb_243 : decode cBA_climb 243 = .ok (.iload_n 2, 1) := by decide +kernel
theorem dBA_climb_244 : decode cBA_climb 244 = .ok (.isub, 1) := by decide +kernel
theorem dBA_climb_245 : decode cBA_climb 245 = .ok (.istore 16, 2) := by decide +kernel
theorem dBA_climb_247 : decode cBA_climb 247 = .ok (.iload 15, 2) := by decide +kernel
theorem dBA_climb_249 : decode cBA_climb 249 = .ok (.iload 4, 2) := by decide +kernel
theorem dBA_climb_251 : decode cBA_climb 251 = .ok (.if_icmp .le 8, 3) := by decide +kernel
theorem dBA_climb_254 : decode cBA_climb 254 = .ok (.iload 15, 2) := by decide +kernel
theorem dBA_climb_256 : decode cBA_climb 256 = .ok (.goto 5, 3) := by decide +kernel
theorem dBA_climb_259 : decode cBA_climb 259 = .ok (.iload 4, 2) := by decide +kernel
theorem dBA_climb_261 : decode cBA_climb 261 = .ok (.istore 17, 2) := by decide +kernel
theorem dBA_climb_263 : decode cBA_climb 263 = .ok (.iconst 0, 1) := by decide +kernel
theorem dBA_climb_264 : decode cBA_climb 264 = .ok (.istore 18, 2) := by decide +kernel
theorem dBA_climb_266 : decode cBA_climb 266 = .ok (.iload 12, 2) := by decide +kernel
theorem dBA_climb_268 : decode cBA_climb 268 = .ok (.istore 19, 2) := by decide +kernel
theorem dBA_climb_270 : decode cBA_climb 270 = .ok (.iload 19, 2) := by decide +kernel
theorem dBA_climb_272 : decode cBA_climb 272 = .ok (.iload 10, 2) := by decide +kernel
theorem dBA_climb_274 : decode cBA_climb 274 = .ok (.if_icmp .gt 112, 3) := by decide +kernel
theorem dBA_climb_277 : decode cBA_climb 277 = .ok (.aload 6, 2) := by decide +kernel
theorem dBA_climb_279 : decode cBA_climb 279 = .ok (.iload 19, 2) := by decide +kernel
theorem dBA_climb_281 : decode cBA_climb 281 = .ok (.iaload, 1) := by decide +kernel
theorem dBA_climb_282 : decode cBA_climb 282 = .ok (.aload 5, 2) := by decide +kernel
theorem dBA_climb_284 : decode cBA_climb 284 = .ok (.iload 16, 2) := by decide +kernel
theorem dBA_climb_286 : decode cBA_climb 286 = .ok (.iload 13, 2) := by decide +kernel
theorem dBA_climb_288 : decode cBA_climb 288 = .ok (.iadd, 1) := by decide +kernel
theorem dBA_climb_289 : decode cBA_climb 289 = .ok (.iaload, 1) := by decide +kernel
theorem dBA_climb_290 : decode cBA_climb 290 = .ok (.iadd, 1) := by decide +kernel
theorem dBA_climb_291 : decode cBA_climb 291 = .ok (.iload 17, 2) := by decide +kernel
theorem dBA_climb_293 : decode cBA_climb 293 = .ok (.if_icmp .lt 80, 3) := by decide +kernel
theorem dBA_climb_296 : decode cBA_climb 296 = .ok (.iload 11, 2) := by decide +kernel
theorem dBA_climb_298 : decode cBA_climb 298 = .ok (.istore 20, 2) := by decide +kernel
theorem dBA_climb_300 : decode cBA_climb 300 = .ok (.iload 20, 2) := by decide +kernel
theorem dBA_climb_302 : decode cBA_climb 302 = .ok (.iload 9, 2) := by decide +kernel
theorem dBA_climb_304 : decode cBA_climb 304 = .ok (.if_icmp .gt 69, 3) := by decide +kernel
theorem dBA_climb_307 : decode cBA_climb 307 = .ok (.aload_n 1, 1) := by decide +kernel
theorem dBA_climb_308 : decode cBA_climb 308 = .ok (.iload 19, 2) := by decide +kernel
theorem dBA_climb_310 : decode cBA_climb 310 = .ok (.iload 7, 2) := by decide +kernel
theorem dBA_climb_312 : decode cBA_climb 312 = .ok (.imul, 1) := by decide +kernel
theorem dBA_climb_313 : decode cBA_climb 313 = .ok (.iload 20, 2) := by decide +kernel
theorem dBA_climb_315 : decode cBA_climb 315 = .ok (.iadd, 1) := by decide +kernel
theorem dBA_climb_316 : decode cBA_climb 316 = .ok (.iaload, 1) := by decide +kernel
theorem dBA_climb_317 : decode cBA_climb 317 = .ok (.aload 5, 2) := by decide +kernel
theorem dBA_climb_319 : decode cBA_climb 319 = .ok (.iload 16, 2) := by decide +kernel
theorem dBA_climb_321 : decode cBA_climb 321 = .ok (.iload 20, 2) := by decide +kernel
theorem dBA_climb_323 : decode cBA_climb 323 = .ok (.iadd, 1) := by decide +kernel
theorem dBA_climb_324 : decode cBA_climb 324 = .ok (.iaload, 1) := by decide +kernel
theorem dBA_climb_325 : decode cBA_climb 325 = .ok (.iadd, 1) := by decide +kernel
theorem dBA_climb_326 : decode cBA_climb 326 = .ok (.istore 21, 2) := by decide +kernel
theorem dBA_climb_328 : decode cBA_climb 328 = .ok (.iload 21, 2) := by decide +kernel
theorem dBA_climb_330 : decode cBA_climb 330 = .ok (.iload 17, 2) := by decide +kernel
theorem dBA_climb_332 : decode cBA_climb 332 = .ok (.if_icmp .le 10, 3) := by decide +kernel
theorem dBA_climb_335 : decode cBA_climb 335 = .ok (.iload 21, 2) := by decide +kernel
theorem dBA_climb_337 : decode cBA_climb 337 = .ok (.istore 17, 2) := by decide +kernel
theorem dBA_climb_339 : decode cBA_climb 339 = .ok (.iconst 0, 1) := by decide +kernel
theorem dBA_climb_340 : decode cBA_climb 340 = .ok (.istore 18, 2) := by decide +kernel
theorem dBA_climb_342 : decode cBA_climb 342 = .ok (.iload 21, 2) := by decide +kernel
theorem dBA_climb_344 : decode cBA_climb 344 = .ok (.iload 17, 2) := by decide +kernel
theorem dBA_climb_346 : decode cBA_climb 346 = .ok (.if_icmp .ne 21, 3) := by decide +kernel
theorem dBA_climb_349 : decode cBA_climb 349 = .ok (.aload_n 0, 1) := by decide +kernel
theorem dBA_climb_350 : decode cBA_climb 350 = .ok (.getfield 55, 3) := by decide +kernel
theorem dBA_climb_353 : decode cBA_climb 353 = .ok (.iload 18, 2) := by decide +kernel
theorem dBA_climb_355 : decode cBA_climb 355 = .ok (.iload 19, 2) := by decide +kernel
theorem dBA_climb_357 : decode cBA_climb 357 = .ok (.iload 7, 2) := by decide +kernel
theorem dBA_climb_359 : decode cBA_climb 359 = .ok (.imul, 1) := by decide +kernel
theorem dBA_climb_360 : decode cBA_climb 360 = .ok (.iload 20, 2) := by decide +kernel
theorem dBA_climb_362 : decode cBA_climb 362 = .ok (.iadd, 1) := by decide +kernel
theorem dBA_climb_363 : decode cBA_climb 363 = .ok (.iastore, 1) := by decide +kernel
theorem dBA_climb_364 : decode cBA_climb 364 = .ok (.iinc 18 1, 3) := by decide +kernel
theorem dBA_climb_367 : decode cBA_climb 367 = .ok (.iinc 20 1, 3) := by decide +kernel
theorem dBA_climb_370 : decode cBA_climb 370 = .ok (.goto (-70), 3) := by decide +kernel
theorem dBA_climb_373 : decode cBA_climb 373 = .ok (.iload 16, 2) := by decide +kernel
theorem dBA_climb_375 : decode cBA_climb 375 = .ok (.iload 8, 2) := by decide +kernel
theorem dBA_climb_377 : decode cBA_climb 377 = .ok (.iadd, 1) := by decide +kernel
theorem dBA_climb_378 : decode cBA_climb 378 = .ok (.istore 16, 2) := by decide +kernel
theorem dBA_climb_380 : decode cBA_climb 380 = .ok (.iinc 19 1, 3) := by decide +kernel
theorem dBA_climb_383 : decode cBA_climb 383 = .ok (.goto (-113), 3) := by decide +kernel
theorem dBA_climb_386 : decode cBA_climb 386 = .ok (.aload_n 0, 1) := by decide +kernel
theorem dBA_climb_387 : decode cBA_climb 387 = .ok (.iload 18, 2) := by decide +kernel
theorem dBA_climb_389 : decode cBA_climb 389 = .ok (.putfield 9, 3) := by decide +kernel
theorem dBA_climb_392 : decode cBA_climb 392 = .ok (.iload 17, 2) := by decide +kernel
theorem dBA_climb_394 : decode cBA_climb 394 = .ok (.ireturn, 1) := by decide +kernel
theorem dBA_placeIndex_0 : decode cBA_placeIndex 0 = .ok (.iload_n 2, 1) := by decide +kernel
theorem dBA_placeIndex_1 : decode cBA_placeIndex 1 = .ok (.aload_n 0, 1) := by decide +kernel
theorem dBA_placeIndex_2 : decode cBA_placeIndex 2 = .ok (.getfield 19, 3) := by decide +kernel
theorem dBA_placeIndex_5 : decode cBA_placeIndex 5 = .ok (.iadd, 1) := by decide +kernel
theorem dBA_placeIndex_6 : decode cBA_placeIndex 6 = .ok (.aload_n 0, 1) := by decide +kernel
theorem dBA_placeIndex_7 : decode cBA_placeIndex 7 = .ok (.getfield 33, 3) := by decide +kernel
theorem dBA_placeIndex_10 : decode cBA_placeIndex 10 = .ok (.imul, 1) := by decide +kernel
theorem dBA_placeIndex_11 : decode cBA_placeIndex 11 = .ok (.iload_n 1, 1) := by decide +kernel
theorem dBA_placeIndex_12 : decode cBA_placeIndex 12 = .ok (.iadd, 1) := by decide +kernel
theorem dBA_placeIndex_13 : decode cBA_placeIndex 13 = .ok (.aload_n 0, 1) := by decide +kernel
theorem dBA_placeIndex_14 : decode cBA_placeIndex 14 = .ok (.getfield 19, 3) := by decide +kernel
theorem dBA_placeIndex_17 : decode cBA_placeIndex 17 = .ok (.iadd, 1) := by decide +kernel
theorem dBA_placeIndex_18 : decode cBA_placeIndex 18 = .ok (.ireturn, 1) := by decide +kernel
theorem dHO_init_0 : decode cHO_init 0 = .ok (.aload_n 0, 1) := by decide +kernel
theorem dHO_init_1 : decode cHO_init 1 = .ok (.invokespecial 1, 3) := by decide +kernel
theorem dHO_init_4 : decode cHO_init 4 = .ok (.aload_n 0, 1) := by decide +kernel
theorem dHO_init_5 : decode cHO_init 5 = .ok (.iload_n 1, 1) := by decide +kernel
theorem dHO_init_6 : decode cHO_init 6 = .ok (.putfield 7, 3) := by decide +kernel
theorem dHO_init_9 : decode cHO_init 9 = .ok (.aload_n 0, 1) := by decide +kernel
theorem dHO_init_10 : decode cHO_init 10 = .ok (.iload_n 2, 1) := by decide +kernel
theorem dHO_init_11 : decode cHO_init 11 = .ok (.putfield 13, 3) := by decide +kernel
theorem dHO_init_14 : decode cHO_init 14 = .ok (.aload_n 0, 1) := by decide +kernel
theorem dHO_init_15 : decode cHO_init 15 = .ok (.iload_n 1, 1) := by decide +kernel
theorem dHO_init_16 : decode cHO_init 16 = .ok (.iload_n 2, 1) := by decide +kernel
theorem dHO_init_17 : decode cHO_init 17 = .ok (.imul, 1) := by decide +kernel
theorem dHO_init_18 : decode cHO_init 18 = .ok (.putfield 16, 3) := by decide +kernel
theorem dHO_init_21 : decode cHO_init 21 = .ok (.aload_n 0, 1) := by decide +kernel
theorem dHO_init_22 : decode cHO_init 22 = .ok (.aload_n 0, 1) := by decide +kernel
theorem dHO_init_23 : decode cHO_init 23 = .ok (.getfield 16, 3) := by decide +kernel
theorem dHO_init_26 : decode cHO_init 26 = .ok (.newarray .int, 2) := by decide +kernel
theorem dHO_init_28 : decode cHO_init 28 = .ok (.putfield 19, 3) := by decide +kernel
theorem dHO_init_31 : decode cHO_init 31 = .ok (.aload_n 0, 1) := by decide +kernel
theorem dHO_init_32 : decode cHO_init 32 = .ok (.aload_n 0, 1) := by decide +kernel
theorem dHO_init_33 : decode cHO_init 33 = .ok (.getfield 16, 3) := by decide +kernel
theorem dHO_init_36 : decode cHO_init 36 = .ok (.newarray .int, 2) := by decide +kernel
theorem dHO_init_38 : decode cHO_init 38 = .ok (.putfield 23, 3) := by decide +kernel
theorem dHO_init_41 : decode cHO_init 41 = .ok (.aload_n 0, 1) := by decide +kernel
theorem dHO_init_42 : decode cHO_init 42 = .ok (.aload_n 0, 1) := by decide +kernel
theorem dHO_init_43 : decode cHO_init 43 = .ok (.getfield 16, 3) := by decide +kernel
theorem dHO_init_46 : decode cHO_init 46 = .ok (.newarray .int, 2) := by decide +kernel
theorem dHO_init_48 : decode cHO_init 48 = .ok (.putfield 26, 3) := by decide +kernel
theorem dHO_init_51 : decode cHO_init 51 = .ok (.aload_n 0, 1) := by decide +kernel
theorem dHO_init_52 : decode cHO_init 52 = .ok (.aload_n 0, 1) := by decide +kernel
theorem dHO_init_53 : decode cHO_init 53 = .ok (.getfield 16, 3) := by decide +kernel
theorem dHO_init_56 : decode cHO_init 56 = .ok (.newarray .int, 2) := by decide +kernel
theorem dHO_init_58 : decode cHO_init 58 = .ok (.putfield 29, 3) := by decide +kernel
theorem dHO_init_61 : decode cHO_init 61 = .ok (.aload_n 0, 1) := by decide +kernel
theorem dHO_init_62 : decode cHO_init 62 = .ok (.aload_n 0, 1) := by decide +kernel
theorem dHO_init_63 : decode cHO_init 63 = .ok (.getfield 16, 3) := by decide +kernel
theorem dHO_init_66 : decode cHO_init 66 = .ok (.newarray .int, 2) := by decide +kernel
theorem dHO_init_68 : decode cHO_init 68 = .ok (.putfield 32, 3) := by decide +kernel
theorem dHO_init_71 : decode cHO_init 71 = .ok (.aload_n 0, 1) := by decide +kernel
theorem dHO_init_72 : decode cHO_init 72 = .ok (.iload_n 2, 1) := by decide +kernel
theorem dHO_init_73 : decode cHO_init 73 = .ok (.newarray .int, 2) := by decide +kernel
theorem dHO_init_75 : decode cHO_init 75 = .ok (.putfield 35, 3) := by decide +kernel
theorem dHO_init_78 : decode cHO_init 78 = .ok (.iconst 0, 1) := by decide +kernel
theorem dHO_init_79 : decode cHO_init 79 = .ok (.istore_n 3, 1) := by decide +kernel
theorem dHO_init_80 : decode cHO_init 80 = .ok (.iload_n 3, 1) := by decide +kernel
theorem dHO_init_81 : decode cHO_init 81 = .ok (.iload_n 2, 1) := by decide +kernel
theorem dHO_init_82 : decode cHO_init 82 = .ok (.if_icmp .ge 49, 3) := by decide +kernel
theorem dHO_init_85 : decode cHO_init 85 = .ok (.iconst 0, 1) := by decide +kernel
theorem dHO_init_86 : decode cHO_init 86 = .ok (.istore 4, 2) := by decide +kernel
theorem dHO_init_88 : decode cHO_init 88 = .ok (.iload 4, 2) := by decide +kernel
theorem dHO_init_90 : decode cHO_init 90 = .ok (.iload_n 1, 1) := by decide +kernel
theorem dHO_init_91 : decode cHO_init 91 = .ok (.if_icmp .ge 34, 3) := by decide +kernel
theorem dHO_init_94 : decode cHO_init 94 = .ok (.aload_n 0, 1) := by decide +kernel
theorem dHO_init_95 : decode cHO_init 95 = .ok (.getfield 19, 3) := by decide +kernel
theorem dHO_init_98 : decode cHO_init 98 = .ok (.iload_n 3, 1) := by decide +kernel
theorem dHO_init_99 : decode cHO_init 99 = .ok (.iload_n 1, 1) := by decide +kernel
theorem dHO_init_100 : decode cHO_init 100 = .ok (.imul, 1) := by decide +kernel
theorem dHO_init_101 : decode cHO_init 101 = .ok (.iload 4, 2) := by decide +kernel
theorem dHO_init_103 : decode cHO_init 103 = .ok (.iadd, 1) := by decide +kernel
theorem dHO_init_104 : decode cHO_init 104 = .ok (.iload 4, 2) := by decide +kernel
theorem dHO_init_106 : decode cHO_init 106 = .ok (.iastore, 1) := by decide +kernel
theorem dHO_init_107 : decode cHO_init 107 = .ok (.aload_n 0, 1) := by decide +kernel
theorem dHO_init_108 : decode cHO_init 108 = .ok (.getfield 23, 3) := by decide +kernel
theorem dHO_init_111 : decode cHO_init 111 = .ok (.iload_n 3, 1) := by decide +kernel
theorem dHO_init_112 : decode cHO_init 112 = .ok (.iload_n 1, 1) := by decide +kernel
theorem dHO_init_113 : decode cHO_init 113 = .ok (.imul, 1) := by decide +kernel
theorem dHO_init_114 : decode cHO_init 114 = .ok (.iload 4, 2) := by decide +kernel
theorem dHO_init_116 : decode cHO_init 116 = .ok (.iadd, 1) := by decide +kernel
theorem dHO_init_117 : decode cHO_init 117 = .ok (.iload_n 3, 1) := by decide +kernel
theorem dHO_init_118 : decode cHO_init 118 = .ok (.iastore, 1) := by decide +kernel
theorem dHO_init_119 : decode cHO_init 119 = .ok (.iinc 4 1, 3) := by decide +kernel
theorem dHO_init_122 : decode cHO_init 122 = .ok (.goto (-34), 3) := by decide +kernel
theorem dHO_init_125 : decode cHO_init 125 = .ok (.iinc 3 1, 3) := by decide +kernel
theorem dHO_init_128 : decode cHO_init 128 = .ok (.goto (-48), 3) := by decide +kernel
theorem dHO_init_131 : decode cHO_init 131 = .ok (.return_, 1) := by decide +kernel
theorem dHO_tipWith_0 : decode cHO_tipWith 0 = .ok (.aload_n 0, 1) := by decide +kernel
theorem dHO_tipWith_1 : decode cHO_tipWith 1 = .ok (.getfield 26, 3) := by decide +kernel
theorem dHO_tipWith_4 : decode cHO_tipWith 4 = .ok (.iload_n 1, 1) := by decide +kernel
theorem dHO_tipWith_5 : decode cHO_tipWith 5 = .ok (.iaload, 1) := by decide +kernel
theorem dHO_tipWith_6 : decode cHO_tipWith 6 = .ok (.iload_n 2, 1) := by decide +kernel
theorem dHO_tipWith_7 : decode cHO_tipWith 7 = .ok (.iadd, 1) := by decide +kernel
theorem dHO_tipWith_8 : decode cHO_tipWith 8 = .ok (.ldc 40, 2) := by decide +kernel
theorem dHO_tipWith_10 : decode cHO_tipWith 10 = .ok (.imul, 1) := by decide +kernel
theorem dHO_tipWith_11 : decode cHO_tipWith 11 = .ok (.ireturn, 1) := by decide +kernel
theorem dHO_setTip_0 : decode cHO_setTip 0 = .ok (.aload_n 0, 1) := by decide +kernel
theorem dHO_setTip_1 : decode cHO_setTip 1 = .ok (.getfield 32, 3) := by decide +kernel
theorem dHO_setTip_4 : decode cHO_setTip 4 = .ok (.iload_n 1, 1) := by decide +kernel
theorem dHO_setTip_5 : decode cHO_setTip 5 = .ok (.iload_n 2, 1) := by decide +kernel
theorem dHO_setTip_6 : decode cHO_setTip 6 = .ok (.iastore, 1) := by decide +kernel
theorem dHO_setTip_7 : decode cHO_setTip 7 = .ok (.aload_n 0, 1) := by decide +kernel
theorem dHO_setTip_8 : decode cHO_setTip 8 = .ok (.getfield 23, 3) := by decide +kernel
theorem dHO_setTip_11 : decode cHO_setTip 11 = .ok (.iload_n 1, 1) := by decide +kernel
theorem dHO_setTip_12 : decode cHO_setTip 12 = .ok (.iaload, 1) := by decide +kernel
theorem dHO_setTip_13 : decode cHO_setTip 13 = .ok (.istore_n 3, 1) := by decide +kernel
theorem dHO_setTip_14 : decode cHO_setTip 14 = .ok (.iconst 0, 1) := by decide +kernel
theorem dHO_setTip_15 : decode cHO_setTip 15 = .ok (.istore 4, 2) := by decide +kernel
theorem dHO_setTip_17 : decode cHO_setTip 17 = .ok (.iload_n 3, 1) := by decide +kernel
theorem dHO_setTip_18 : decode cHO_setTip 18 = .ok (.aload_n 0, 1) := by decide +kernel
theorem dHO_setTip_19 : decode cHO_setTip 19 = .ok (.getfield 7, 3) := by decide +kernel
theorem dHO_setTip_22 : decode cHO_setTip 22 = .ok (.imul, 1) := by decide +kernel
theorem dHO_setTip_23 : decode cHO_setTip 23 = .ok (.istore 5, 2) := by decide +kernel
theorem dHO_setTip_25 : decode cHO_setTip 25 = .ok (.iload 5, 2) := by decide +kernel
theorem dHO_setTip_27 : decode cHO_setTip 27 = .ok (.iload_n 3, 1) := by decide +kernel
theorem dHO_setTip_28 : decode cHO_setTip 28 = .ok (.aload_n 0, 1) := by decide +kernel
theorem dHO_setTip_29 : decode cHO_setTip 29 = .ok (.getfield 7, 3) := by decide +kernel
theorem dHO_setTip_32 : decode cHO_setTip 32 = .ok (.imul, 1) := by decide +kernel
theorem dHO_setTip_33 : decode cHO_setTip 33 = .ok (.aload_n 0, 1) := by decide +kernel
theorem dHO_setTip_34 : decode cHO_setTip 34 = .ok (.getfield 7, 3) := by decide +kernel
theorem dHO_setTip_37 : decode cHO_setTip 37 = .ok (.iadd, 1) := by decide +kernel
theorem dHO_setTip_38 : decode cHO_setTip 38 = .ok (.if_icmp .ge 23, 3) := by decide +kernel
theorem dHO_setTip_41 : decode cHO_setTip 41 = .ok (.iload 4, 2) := by decide +kernel
theorem dHO_setTip_43 : decode cHO_setTip 43 = .ok (.aload_n 0, 1) := by decide +kernel
theorem dHO_setTip_44 : decode cHO_setTip 44 = .ok (.getfield 32, 3) := by decide +kernel
theorem dHO_setTip_47 : decode cHO_setTip 47 = .ok (.iload 5, 2) := by decide +kernel
theorem dHO_setTip_49 : decode cHO_setTip 49 = .ok (.iaload, 1) := by decide +kernel
theorem dHO_setTip_50 : decode cHO_setTip 50 = .ok (.invokestatic 41, 3) := by decide +kernel
theorem dHO_setTip_53 : decode cHO_setTip 53 = .ok (.istore 4, 2) := by decide +kernel
theorem dHO_setTip_55 : decode cHO_setTip 55 = .ok (.iinc 5 1, 3) := by decide +kernel
theorem dHO_setTip_58 : decode cHO_setTip 58 = .ok (.goto (-33), 3) := by decide +kernel
theorem dHO_setTip_61 : decode cHO_setTip 61 = .ok (.aload_n 0, 1) := by decide +kernel
theorem dHO_setTip_62 : decode cHO_setTip 62 = .ok (.getfield 35, 3) := by decide +kernel
theorem dHO_setTip_65 : decode cHO_setTip 65 = .ok (.iload_n 3, 1) := by decide +kernel
theorem dHO_setTip_66 : decode cHO_setTip 66 = .ok (.iload 4, 2) := by decide +kernel
theorem dHO_setTip_68 : decode cHO_setTip 68 = .ok (.iastore, 1) := by decide +kernel
theorem dHO_setTip_69 : decode cHO_setTip 69 = .ok (.return_, 1) := by decide +kernel
theorem dLE_floor_0 : decode cLE_floor 0 = .ok (.iload_n 0, 1) := by decide +kernel
theorem dLE_floor_1 : decode cLE_floor 1 = .ok (.bipush 20, 2) := by decide +kernel
theorem dLE_floor_3 : decode cLE_floor 3 = .ok (.ishr, 1) := by decide +kernel
theorem dLE_floor_4 : decode cLE_floor 4 = .ok (.ireturn, 1) := by decide +kernel
theorem dLE_isWhole_0 : decode cLE_isWhole 0 = .ok (.iload_n 0, 1) := by decide +kernel
theorem dLE_isWhole_1 : decode cLE_isWhole 1 = .ok (.invokestatic 9, 3) := by decide +kernel
theorem dLE_isWhole_4 : decode cLE_isWhole 4 = .ok (.ldc 13, 2) := by decide +kernel
theorem dLE_isWhole_6 : decode cLE_isWhole 6 = .ok (.imul, 1) := by decide +kernel
theorem dLE_isWhole_7 : decode cLE_isWhole 7 = .ok (.iload_n 0, 1) := by decide +kernel
theorem dLE_isWhole_8 : decode cLE_isWhole 8 = .ok (.if_icmp .ne 7, 3) := by decide +kernel
theorem dLE_isWhole_11 : decode cLE_isWhole 11 = .ok (.iconst 1, 1) := by decide +kernel
theorem dLE_isWhole_12 : decode cLE_isWhole 12 = .ok (.goto 4, 3) := by decide +kernel
theorem dLE_isWhole_15 : decode cLE_isWhole 15 = .ok (.iconst 0, 1) := by decide +kernel
theorem dLE_isWhole_16 : decode cLE_isWhole 16 = .ok (.ireturn, 1) := by decide +kernel
theorem dPL_init_0 : decode cPL_init 0 = .ok (.aload_n 0, 1) := by decide +kernel
theorem dPL_init_1 : decode cPL_init 1 = .ok (.invokespecial 5, 3) := by decide +kernel
theorem dPL_init_4 : decode cPL_init 4 = .ok (.aload_n 0, 1) := by decide +kernel
theorem dPL_init_5 : decode cPL_init 5 = .ok (.iconst 4, 1) := by decide +kernel
theorem dPL_init_6 : decode cPL_init 6 = .ok (.newarray .int, 2) := by decide +kernel
theorem dPL_init_8 : decode cPL_init 8 = .ok (.putfield 11, 3) := by decide +kernel
theorem dPL_init_11 : decode cPL_init 11 = .ok (.aload_n 0, 1) := by decide +kernel
theorem dPL_init_12 : decode cPL_init 12 = .ok (.iconst 4, 1) := by decide +kernel
theorem dPL_init_13 : decode cPL_init 13 = .ok (.newarray .int, 2) := by decide +kernel
theorem dPL_init_15 : decode cPL_init 15 = .ok (.putfield 15, 3) := by decide +kernel
theorem dPL_init_18 : decode cPL_init 18 = .ok (.aload_n 0, 1) := by decide +kernel
theorem dPL_init_19 : decode cPL_init 19 = .ok (.iconst 0, 1) := by decide +kernel
theorem dPL_init_20 : decode cPL_init 20 = .ok (.putfield 18, 3) := by decide +kernel
theorem dPL_init_23 : decode cPL_init 23 = .ok (.aload_n 0, 1) := by decide +kernel
theorem dPL_init_24 : decode cPL_init 24 = .ok (.bipush 8, 2) := by decide +kernel
theorem dPL_init_26 : decode cPL_init 26 = .ok (.newarray .int, 2) := by decide +kernel
theorem dPL_init_28 : decode cPL_init 28 = .ok (.putfield 22, 3) := by decide +kernel
theorem dPL_init_31 : decode cPL_init 31 = .ok (.aload_n 0, 1) := by decide +kernel
theorem dPL_init_32 : decode cPL_init 32 = .ok (.bipush 8, 2) := by decide +kernel
theorem dPL_init_34 : decode cPL_init 34 = .ok (.newarray .int, 2) := by decide +kernel
theorem dPL_init_36 : decode cPL_init 36 = .ok (.putfield 25, 3) := by decide +kernel
theorem dPL_init_39 : decode cPL_init 39 = .ok (.aload_n 0, 1) := by decide +kernel
theorem dPL_init_40 : decode cPL_init 40 = .ok (.bipush 8, 2) := by decide +kernel
theorem dPL_init_42 : decode cPL_init 42 = .ok (.newarray .int, 2) := by decide +kernel
theorem dPL_init_44 : decode cPL_init 44 = .ok (.putfield 28, 3) := by decide +kernel
theorem dPL_init_47 : decode cPL_init 47 = .ok (.aload_n 0, 1) := by decide +kernel
theorem dPL_init_48 : decode cPL_init 48 = .ok (.iconst 0, 1) := by decide +kernel
theorem dPL_init_49 : decode cPL_init 49 = .ok (.putfield 31, 3) := by decide +kernel
theorem dPL_init_52 : decode cPL_init 52 = .ok (.aload_n 0, 1) := by decide +kernel
theorem dPL_init_53 : decode cPL_init 53 = .ok (.iconst 0, 1) := by decide +kernel
theorem dPL_init_54 : decode cPL_init 54 = .ok (.putfield 34, 3) := by decide +kernel
theorem dPL_init_57 : decode cPL_init 57 = .ok (.aload_n 0, 1) := by decide +kernel
theorem dPL_init_58 : decode cPL_init 58 = .ok (.aload_n 1, 1) := by decide +kernel
theorem dPL_init_59 : decode cPL_init 59 = .ok (.putfield 37, 3) := by decide +kernel
theorem dPL_init_62 : decode cPL_init 62 = .ok (.aload_n 0, 1) := by decide +kernel
theorem dPL_init_63 : decode cPL_init 63 = .ok (.aload_n 2, 1) := by decide +kernel
theorem dPL_init_64 : decode cPL_init 64 = .ok (.putfield 41, 3) := by decide +kernel
theorem dPL_init_67 : decode cPL_init 67 = .ok (.aload_n 0, 1) := by decide +kernel
theorem dPL_init_68 : decode cPL_init 68 = .ok (.aload_n 1, 1) := by decide +kernel
theorem dPL_init_69 : decode cPL_init 69 = .ok (.getfield 45, 3) := by decide +kernel
theorem dPL_init_72 : decode cPL_init 72 = .ok (.newarray .boolean, 2) := by decide +kernel
theorem dPL_init_74 : decode cPL_init 74 = .ok (.putfield 50, 3) := by decide +kernel
theorem dPL_init_77 : decode cPL_init 77 = .ok (.aload_n 0, 1) := by decide +kernel
theorem dPL_init_78 : decode cPL_init 78 = .ok (.aload_n 1, 1) := by decide +kernel
theorem dPL_init_79 : decode cPL_init 79 = .ok (.getfield 45, 3) := by decide +kernel
theorem dPL_init_82 : decode cPL_init 82 = .ok (.newarray .int, 2) := by decide +kernel
theorem dPL_init_84 : decode cPL_init 84 = .ok (.putfield 54, 3) := by decide +kernel
theorem dPL_init_87 : decode cPL_init 87 = .ok (.return_, 1) := by decide +kernel
theorem dPL_holds_0 : decode cPL_holds 0 = .ok (.iload_n 0, 1) := by decide +kernel
theorem dPL_holds_1 : decode cPL_holds 1 = .ok (.iload_n 1, 1) := by decide +kernel
theorem dPL_holds_2 : decode cPL_holds 2 = .ok (.ishr, 1) := by decide +kernel
theorem dPL_holds_3 : decode cPL_holds 3 = .ok (.iconst 1, 1) := by decide +kernel
theorem dPL_holds_4 : decode cPL_holds 4 = .ok (.iand, 1) := by decide +kernel
theorem dPL_holds_5 : decode cPL_holds 5 = .ok (.iconst 1, 1) := by decide +kernel
theorem dPL_holds_6 : decode cPL_holds 6 = .ok (.if_icmp .ne 7, 3) := by decide +kernel
theorem dPL_holds_9 : decode cPL_holds 9 = .ok (.iconst 1, 1) := by decide +kernel
theorem dPL_holds_10 : decode cPL_holds 10 = .ok (.goto 4, 3) := by decide +kernel
theorem dPL_holds_13 : decode cPL_holds 13 = .ok (.iconst 0, 1) := by decide +kernel
theorem dPL_holds_14 : decode cPL_holds 14 = .ok (.ireturn, 1) := by decide +kernel
theorem dPL_isFull_0 : decode cPL_isFull 0 = .ok (.aload_n 0, 1) := by decide +kernel
theorem dPL_isFull_1 : decode cPL_isFull 1 = .ok (.getfield 18, 3) := by decide +kernel
theorem dPL_isFull_4 : decode cPL_isFull 4 = .ok (.iconst 4, 1) := by decide +kernel
theorem dPL_isFull_5 : decode cPL_isFull 5 = .ok (.if_icmp .lt 7, 3) := by decide +kernel
theorem dPL_isFull_8 : decode cPL_isFull 8 = .ok (.iconst 1, 1) := by decide +kernel
theorem dPL_isFull_9 : decode cPL_isFull 9 = .ok (.goto 4, 3) := by decide +kernel
theorem dPL_isFull_12 : decode cPL_isFull 12 = .ok (.iconst 0, 1) := by decide +kernel
theorem dPL_isFull_13 : decode cPL_isFull 13 = .ok (.ireturn, 1) := by decide +kernel
theorem dPL_add_0 : decode cPL_add 0 = .ok (.aload_n 0, 1) := by decide +kernel
theorem dPL_add_1 : decode cPL_add 1 = .ok (.getfield 11, 3) := by decide +kernel
theorem dPL_add_4 : decode cPL_add 4 = .ok (.aload_n 0, 1) := by decide +kernel
theorem dPL_add_5 : decode cPL_add 5 = .ok (.getfield 18, 3) := by decide +kernel
theorem dPL_add_8 : decode cPL_add 8 = .ok (.iload_n 1, 1) := by decide +kernel
theorem dPL_add_9 : decode cPL_add 9 = .ok (.iastore, 1) := by decide +kernel
theorem dPL_add_10 : decode cPL_add 10 = .ok (.aload_n 0, 1) := by decide +kernel
theorem dPL_add_11 : decode cPL_add 11 = .ok (.getfield 15, 3) := by decide +kernel
theorem dPL_add_14 : decode cPL_add 14 = .ok (.aload_n 0, 1) := by decide +kernel
theorem dPL_add_15 : decode cPL_add 15 = .ok (.getfield 18, 3) := by decide +kernel
theorem dPL_add_18 : decode cPL_add 18 = .ok (.iload_n 2, 1) := by decide +kernel
theorem dPL_add_19 : decode cPL_add 19 = .ok (.iastore, 1) := by decide +kernel
theorem dPL_add_20 : decode cPL_add 20 = .ok (.aload_n 0, 1) := by decide +kernel
theorem dPL_add_21 : decode cPL_add 21 = .ok (.dup, 1) := by decide +kernel
theorem dPL_add_22 : decode cPL_add 22 = .ok (.getfield 18, 3) := by decide +kernel
theorem dPL_add_25 : decode cPL_add 25 = .ok (.iconst 1, 1) := by decide +kernel
theorem dPL_add_26 : decode cPL_add 26 = .ok (.iadd, 1) := by decide +kernel
theorem dPL_add_27 : decode cPL_add 27 = .ok (.putfield 18, 3) := by decide +kernel
theorem dPL_add_30 : decode cPL_add 30 = .ok (.return_, 1) := by decide +kernel
theorem dPL_bestSet_0 : decode cPL_bestSet 0 = .ok (.aload_n 0, 1) := by decide +kernel
theorem dPL_bestSet_1 : decode cPL_bestSet 1 = .ok (.invokevirtual 57, 3) := by decide +kernel
theorem dPL_bestSet_4 : decode cPL_bestSet 4 = .ok (.ifCond .eq 5, 3) := by decide +kernel
theorem dPL_bestSet_7 : decode cPL_bestSet 7 = .ok (.iconst 0, 1) := by decide +kernel
theorem dPL_bestSet_8 : decode cPL_bestSet 8 = .ok (.ireturn, 1) := by decide +kernel
theorem dPL_bestSet_9 : decode cPL_bestSet 9 = .ok (.aload_n 0, 1) := by decide +kernel
theorem dPL_bestSet_10 : decode cPL_bestSet 10 = .ok (.invokevirtual 61, 3) := by decide +kernel
theorem dPL_bestSet_13 : decode cPL_bestSet 13 = .ok (.aload_n 0, 1) := by decide +kernel
theorem dPL_bestSet_14 : decode cPL_bestSet 14 = .ok (.invokevirtual 64, 3) := by decide +kernel
theorem dPL_bestSet_17 : decode cPL_bestSet 17 = .ok (.iconst 1, 1) := by decide +kernel
theorem dPL_bestSet_18 : decode cPL_bestSet 18 = .ok (.iconst 1, 1) := by decide +kernel
theorem dPL_bestSet_19 : decode cPL_bestSet 19 = .ok (.aload_n 0, 1) := by decide +kernel
theorem dPL_bestSet_20 : decode cPL_bestSet 20 = .ok (.getfield 18, 3) := by decide +kernel
theorem dPL_bestSet_23 : decode cPL_bestSet 23 = .ok (.ishl, 1) := by decide +kernel
theorem dPL_bestSet_24 : decode cPL_bestSet 24 = .ok (.ishl, 1) := by decide +kernel
theorem dPL_bestSet_25 : decode cPL_bestSet 25 = .ok (.iconst 1, 1) := by decide +kernel
theorem dPL_bestSet_26 : decode cPL_bestSet 26 = .ok (.isub, 1) := by decide +kernel
theorem dPL_bestSet_27 : decode cPL_bestSet 27 = .ok (.istore_n 1, 1) := by decide +kernel
theorem dPL_bestSet_28 : decode cPL_bestSet 28 = .ok (.iconst 0, 1) := by decide +kernel
theorem dPL_bestSet_29 : decode cPL_bestSet 29 = .ok (.istore_n 2, 1) := by decide +kernel
theorem dPL_bestSet_30 : decode cPL_bestSet 30 = .ok (.iload_n 2, 1) := by decide +kernel
theorem dPL_bestSet_31 : decode cPL_bestSet 31 = .ok (.aload_n 0, 1) := by decide +kernel
theorem dPL_bestSet_32 : decode cPL_bestSet 32 = .ok (.getfield 37, 3) := by decide +kernel
theorem dPL_bestSet_35 : decode cPL_bestSet 35 = .ok (.getfield 45, 3) := by decide +kernel
theorem dPL_bestSet_38 : decode cPL_bestSet 38 = .ok (.if_icmp .ge 46, 3) := by decide +kernel
theorem dPL_bestSet_41 : decode cPL_bestSet 41 = .ok (.iload_n 1, 1) := by decide +kernel
theorem dPL_bestSet_42 : decode cPL_bestSet 42 = .ok (.ifCond .eq 42, 3) := by decide +kernel
theorem dPL_bestSet_45 : decode cPL_bestSet 45 = .ok (.aload_n 0, 1) := by decide +kernel
theorem dPL_bestSet_46 : decode cPL_bestSet 46 = .ok (.getfield 50, 3) := by decide +kernel
theorem dPL_bestSet_49 : decode cPL_bestSet 49 = .ok (.iload_n 2, 1) := by decide +kernel
theorem dPL_bestSet_50 : decode cPL_bestSet 50 = .ok (.baload, 1) := by decide +kernel
theorem dPL_bestSet_51 : decode cPL_bestSet 51 = .ok (.ifCond .eq 27, 3) := by decide +kernel
theorem dPL_bestSet_54 : decode cPL_bestSet 54 = .ok (.aload_n 0, 1) := by decide +kernel
theorem dPL_bestSet_55 : decode cPL_bestSet 55 = .ok (.iload_n 2, 1) := by decide +kernel
theorem dPL_bestSet_56 : decode cPL_bestSet 56 = .ok (.invokevirtual 67, 3) := by decide +kernel
theorem dPL_bestSet_59 : decode cPL_bestSet 59 = .ok (.ifCond .eq 12, 3) := by decide +kernel
theorem dPL_bestSet_62 : decode cPL_bestSet 62 = .ok (.aload_n 0, 1) := by decide +kernel
theorem dPL_bestSet_63 : decode cPL_bestSet 63 = .ok (.iload_n 2, 1) := by decide +kernel
theorem dPL_bestSet_64 : decode cPL_bestSet 64 = .ok (.iload_n 1, 1) := by decide +kernel
theorem dPL_bestSet_65 : decode cPL_bestSet 65 = .ok (.invokevirtual 71, 3) := by decide +kernel
theorem dPL_bestSet_68 : decode cPL_bestSet 68 = .ok (.goto 9, 3) := by decide +kernel
theorem dPL_bestSet_71 : decode cPL_bestSet 71 = .ok (.aload_n 0, 1) := by decide +kernel
theorem dPL_bestSet_72 : decode cPL_bestSet 72 = .ok (.iload_n 2, 1) := by decide +kernel
theorem dPL_bestSet_73 : decode cPL_bestSet 73 = .ok (.iload_n 1, 1) := by decide +kernel
theorem dPL_bestSet_74 : decode cPL_bestSet 74 = .ok (.invokevirtual 75, 3) := by decide +kernel
theorem dPL_bestSet_77 : decode cPL_bestSet 77 = .ok (.istore_n 1, 1) := by decide +kernel
theorem dPL_bestSet_78 : decode cPL_bestSet 78 = .ok (.iinc 2 1, 3) := by decide +kernel
theorem dPL_bestSet_81 : decode cPL_bestSet 81 = .ok (.goto (-51), 3) := by decide +kernel
theorem dPL_bestSet_84 : decode cPL_bestSet 84 = .ok (.aload_n 0, 1) := by decide +kernel
theorem dPL_bestSet_85 : decode cPL_bestSet 85 = .ok (.iload_n 1, 1) := by decide +kernel
theorem dPL_bestSet_86 : decode cPL_bestSet 86 = .ok (.aload_n 0, 1) := by decide +kernel
theorem dPL_bestSet_87 : decode cPL_bestSet 87 = .ok (.getfield 34, 3) := by decide +kernel
theorem dPL_bestSet_90 : decode cPL_bestSet 90 = .ok (.iconst (-1), 1) := by decide +kernel
theorem dPL_bestSet_91 : decode cPL_bestSet 91 = .ok (.ixor, 1) := by decide +kernel
theorem dPL_bestSet_92 : decode cPL_bestSet 92 = .ok (.iand, 1) := by decide +kernel
theorem dPL_bestSet_93 : decode cPL_bestSet 93 = .ok (.invokevirtual 78, 3) := by decide +kernel
theorem dPL_bestSet_96 : decode cPL_bestSet 96 = .ok (.istore_n 2, 1) := by decide +kernel
theorem dPL_bestSet_97 : decode cPL_bestSet 97 = .ok (.aload_n 0, 1) := by decide +kernel
theorem dPL_bestSet_98 : decode cPL_bestSet 98 = .ok (.iload_n 2, 1) := by decide +kernel
theorem dPL_bestSet_99 : decode cPL_bestSet 99 = .ok (.iload_n 1, 1) := by decide +kernel
theorem dPL_bestSet_100 : decode cPL_bestSet 100 = .ok (.aload_n 0, 1) := by decide +kernel
theorem dPL_bestSet_101 : decode cPL_bestSet 101 = .ok (.getfield 34, 3) := by decide +kernel
theorem dPL_bestSet_104 : decode cPL_bestSet 104 = .ok (.iand, 1) := by decide +kernel
theorem dPL_bestSet_105 : decode cPL_bestSet 105 = .ok (.invokevirtual 82, 3) := by decide +kernel
theorem dPL_bestSet_108 : decode cPL_bestSet 108 = .ok (.istore_n 1, 1) := by decide +kernel
theorem dPL_bestSet_109 : decode cPL_bestSet 109 = .ok (.iconst 0, 1) := by decide +kernel
theorem dPL_bestSet_110 : decode cPL_bestSet 110 = .ok (.istore_n 3, 1) := by decide +kernel
theorem dPL_bestSet_111 : decode cPL_bestSet 111 = .ok (.iload_n 3, 1) := by decide +kernel
theorem dPL_bestSet_112 : decode cPL_bestSet 112 = .ok (.aload_n 0, 1) := by decide +kernel
theorem dPL_bestSet_113 : decode cPL_bestSet 113 = .ok (.getfield 37, 3) := by decide +kernel
theorem dPL_bestSet_116 : decode cPL_bestSet 116 = .ok (.getfield 45, 3) := by decide +kernel
theorem dPL_bestSet_119 : decode cPL_bestSet 119 = .ok (.if_icmp .ge 38, 3) := by decide +kernel
theorem dPL_bestSet_122 : decode cPL_bestSet 122 = .ok (.iload_n 1, 1) := by decide +kernel
theorem dPL_bestSet_123 : decode cPL_bestSet 123 = .ok (.ifCond .eq 34, 3) := by decide +kernel
theorem dPL_bestSet_126 : decode cPL_bestSet 126 = .ok (.aload_n 0, 1) := by decide +kernel
theorem dPL_bestSet_127 : decode cPL_bestSet 127 = .ok (.getfield 54, 3) := by decide +kernel
end
section
theorem dPL_bestSet_130 : decode cPL_bestSet 130 = .ok (.iload_n 3, 1) := by decide +kernel
theorem dPL_bestSet_131 : decode cPL_bestSet 131 = .ok (.iaload, 1) := by decide +kernel
theorem dPL_bestSet_132 : decode cPL_bestSet 132 = .ok (.aload_n 0, 1) := by decide +kernel
theorem dPL_bestSet_133 : decode cPL_bestSet 133 = .ok (.getfield 37, 3) := by decide +kernel
theorem dPL_bestSet_136 : decode cPL_bestSet 136 = .ok (.getfield 85, 3) := by decide +kernel
theorem dPL_bestSet_139 : decode cPL_bestSet 139 = .ok (.iload_n 3, 1) := by decide +kernel
theorem dPL_bestSet_140 : decode cPL_bestSet 140 = .ok (.iaload, 1) := by decide +kernel
theorem dPL_bestSet_141 : decode cPL_bestSet 141 = .ok (.if_icmp .ge 10, 3) := by decide +kernel
theorem dPL_bestSet_144 : decode cPL_bestSet 144 = .ok (.aload_n 0, 1) := by decide +kernel
theorem dPL_bestSet_145 : decode cPL_bestSet 145 = .ok (.iload_n 3, 1) := by decide +kernel
theorem dPL_bestSet_146 : decode cPL_bestSet 146 = .ok (.iload_n 1, 1) := by decide +kernel
theorem dPL_bestSet_147 : decode cPL_bestSet 147 = .ok (.invokevirtual 88, 3) := by decide +kernel
theorem dPL_bestSet_150 : decode cPL_bestSet 150 = .ok (.istore_n 1, 1) := by decide +kernel
theorem dPL_bestSet_151 : decode cPL_bestSet 151 = .ok (.iinc 3 1, 3) := by decide +kernel
theorem dPL_bestSet_154 : decode cPL_bestSet 154 = .ok (.goto (-43), 3) := by decide +kernel
theorem dPL_bestSet_157 : decode cPL_bestSet 157 = .ok (.iload_n 1, 1) := by decide +kernel
theorem dPL_bestSet_158 : decode cPL_bestSet 158 = .ok (.ifCond .ne 7, 3) := by decide +kernel
theorem dPL_bestSet_161 : decode cPL_bestSet 161 = .ok (.iload_n 2, 1) := by decide +kernel
theorem dPL_bestSet_162 : decode cPL_bestSet 162 = .ok (.goto 8, 3) := by decide +kernel
theorem dPL_bestSet_165 : decode cPL_bestSet 165 = .ok (.aload_n 0, 1) := by decide +kernel
theorem dPL_bestSet_166 : decode cPL_bestSet 166 = .ok (.iload_n 1, 1) := by decide +kernel
theorem dPL_bestSet_167 : decode cPL_bestSet 167 = .ok (.invokevirtual 78, 3) := by decide +kernel
theorem dPL_bestSet_170 : decode cPL_bestSet 170 = .ok (.ireturn, 1) := by decide +kernel
theorem dPL_areWantedSafe_0 : decode cPL_areWantedSafe 0 = .ok (.iconst 0, 1) := by decide +kernel
theorem dPL_areWantedSafe_1 : decode cPL_areWantedSafe 1 = .ok (.istore_n 1, 1) := by decide +kernel
theorem dPL_areWantedSafe_2 : decode cPL_areWantedSafe 2 = .ok (.iload_n 1, 1) := by decide +kernel
theorem dPL_areWantedSafe_3 : decode cPL_areWantedSafe 3 = .ok (.aload_n 0, 1) := by decide +kernel
theorem dPL_areWantedSafe_4 : decode cPL_areWantedSafe 4 = .ok (.getfield 37, 3) := by decide +kernel
theorem dPL_areWantedSafe_7 : decode cPL_areWantedSafe 7 = .ok (.getfield 45, 3) := by decide +kernel
theorem dPL_areWantedSafe_10 : decode cPL_areWantedSafe 10 = .ok (.if_icmp .ge 31, 3) := by decide +kernel
theorem dPL_areWantedSafe_13 : decode cPL_areWantedSafe 13 = .ok (.aload_n 0, 1) := by decide +kernel
theorem dPL_areWantedSafe_14 : decode cPL_areWantedSafe 14 = .ok (.getfield 50, 3) := by decide +kernel
theorem dPL_areWantedSafe_17 : decode cPL_areWantedSafe 17 = .ok (.iload_n 1, 1) := by decide +kernel
theorem dPL_areWantedSafe_18 : decode cPL_areWantedSafe 18 = .ok (.baload, 1) := by decide +kernel
theorem dPL_areWantedSafe_19 : decode cPL_areWantedSafe 19 = .ok (.ifCond .eq 16, 3) := by decide +kernel
theorem dPL_areWantedSafe_22 : decode cPL_areWantedSafe 22 = .ok (.aload_n 0, 1) := by decide +kernel
theorem dPL_areWantedSafe_23 : decode cPL_areWantedSafe 23 = .ok (.getfield 41, 3) := by decide +kernel
theorem dPL_areWantedSafe_26 : decode cPL_areWantedSafe 26 = .ok (.iload_n 1, 1) := by decide +kernel
theorem dPL_areWantedSafe_27 : decode cPL_areWantedSafe 27 = .ok (.invokevirtual 91, 3) := by decide +kernel
theorem dPL_areWantedSafe_30 : decode cPL_areWantedSafe 30 = .ok (.ifCond .ne 5, 3) := by decide +kernel
theorem dPL_areWantedSafe_33 : decode cPL_areWantedSafe 33 = .ok (.iconst 0, 1) := by decide +kernel
theorem dPL_areWantedSafe_34 : decode cPL_areWantedSafe 34 = .ok (.ireturn, 1) := by decide +kernel
theorem dPL_areWantedSafe_35 : decode cPL_areWantedSafe 35 = .ok (.iinc 1 1, 3) := by decide +kernel
theorem dPL_areWantedSafe_38 : decode cPL_areWantedSafe 38 = .ok (.goto (-36), 3) := by decide +kernel
theorem dPL_areWantedSafe_41 : decode cPL_areWantedSafe 41 = .ok (.iconst 1, 1) := by decide +kernel
theorem dPL_areWantedSafe_42 : decode cPL_areWantedSafe 42 = .ok (.ireturn, 1) := by decide +kernel
theorem dPL_isCandidate_0 : decode cPL_isCandidate 0 = .ok (.aload_n 0, 1) := by decide +kernel
theorem dPL_isCandidate_1 : decode cPL_isCandidate 1 = .ok (.iload_n 1, 1) := by decide +kernel
theorem dPL_isCandidate_2 : decode cPL_isCandidate 2 = .ok (.aload_n 0, 1) := by decide +kernel
theorem dPL_isCandidate_3 : decode cPL_isCandidate 3 = .ok (.getfield 18, 3) := by decide +kernel
theorem dPL_isCandidate_6 : decode cPL_isCandidate 6 = .ok (.invokevirtual 96, 3) := by decide +kernel
theorem dPL_isCandidate_9 : decode cPL_isCandidate 9 = .ok (.ifCond .le 7, 3) := by decide +kernel
theorem dPL_isCandidate_12 : decode cPL_isCandidate 12 = .ok (.iconst 1, 1) := by decide +kernel
theorem dPL_isCandidate_13 : decode cPL_isCandidate 13 = .ok (.goto 4, 3) := by decide +kernel
theorem dPL_isCandidate_16 : decode cPL_isCandidate 16 = .ok (.iconst 0, 1) := by decide +kernel
theorem dPL_isCandidate_17 : decode cPL_isCandidate 17 = .ok (.ireturn, 1) := by decide +kernel
theorem dPL_countCandidates_0 : decode cPL_countCandidates 0 = .ok (.iconst 0, 1) := by decide +kernel
theorem dPL_countCandidates_1 : decode cPL_countCandidates 1 = .ok (.istore_n 3, 1) := by decide +kernel
theorem dPL_countCandidates_2 : decode cPL_countCandidates 2 = .ok (.iconst 0, 1) := by decide +kernel
theorem dPL_countCandidates_3 : decode cPL_countCandidates 3 = .ok (.istore 4, 2) := by decide +kernel
theorem dPL_countCandidates_5 : decode cPL_countCandidates 5 = .ok (.iload 4, 2) := by decide +kernel
theorem dPL_countCandidates_7 : decode cPL_countCandidates 7 = .ok (.iload_n 2, 1) := by decide +kernel
theorem dPL_countCandidates_8 : decode cPL_countCandidates 8 = .ok (.if_icmp .ge 23, 3) := by decide +kernel
theorem dPL_countCandidates_11 : decode cPL_countCandidates 11 = .ok (.aload_n 0, 1) := by decide +kernel
theorem dPL_countCandidates_12 : decode cPL_countCandidates 12 = .ok (.getfield 11, 3) := by decide +kernel
theorem dPL_countCandidates_15 : decode cPL_countCandidates 15 = .ok (.iload 4, 2) := by decide +kernel
theorem dPL_countCandidates_17 : decode cPL_countCandidates 17 = .ok (.iaload, 1) := by decide +kernel
theorem dPL_countCandidates_18 : decode cPL_countCandidates 18 = .ok (.iload_n 1, 1) := by decide +kernel
theorem dPL_countCandidates_19 : decode cPL_countCandidates 19 = .ok (.if_icmp .ne 6, 3) := by decide +kernel
theorem dPL_countCandidates_22 : decode cPL_countCandidates 22 = .ok (.iinc 3 1, 3) := by decide +kernel
theorem dPL_countCandidates_25 : decode cPL_countCandidates 25 = .ok (.iinc 4 1, 3) := by decide +kernel
theorem dPL_countCandidates_28 : decode cPL_countCandidates 28 = .ok (.goto (-23), 3) := by decide +kernel
theorem dPL_countCandidates_31 : decode cPL_countCandidates 31 = .ok (.iload_n 3, 1) := by decide +kernel
theorem dPL_countCandidates_32 : decode cPL_countCandidates 32 = .ok (.ireturn, 1) := by decide +kernel
theorem dPL_listChoices_0 : decode cPL_listChoices 0 = .ok (.aload_n 0, 1) := by decide +kernel
theorem dPL_listChoices_1 : decode cPL_listChoices 1 = .ok (.iconst 0, 1) := by decide +kernel
theorem dPL_listChoices_2 : decode cPL_listChoices 2 = .ok (.putfield 31, 3) := by decide +kernel
theorem dPL_listChoices_5 : decode cPL_listChoices 5 = .ok (.aload_n 0, 1) := by decide +kernel
theorem dPL_listChoices_6 : decode cPL_listChoices 6 = .ok (.iconst 0, 1) := by decide +kernel
theorem dPL_listChoices_7 : decode cPL_listChoices 7 = .ok (.putfield 34, 3) := by decide +kernel
theorem dPL_listChoices_10 : decode cPL_listChoices 10 = .ok (.iconst 0, 1) := by decide +kernel
theorem dPL_listChoices_11 : decode cPL_listChoices 11 = .ok (.istore_n 1, 1) := by decide +kernel
theorem dPL_listChoices_12 : decode cPL_listChoices 12 = .ok (.iload_n 1, 1) := by decide +kernel
theorem dPL_listChoices_13 : decode cPL_listChoices 13 = .ok (.aload_n 0, 1) := by decide +kernel
theorem dPL_listChoices_14 : decode cPL_listChoices 14 = .ok (.getfield 18, 3) := by decide +kernel
theorem dPL_listChoices_17 : decode cPL_listChoices 17 = .ok (.if_icmp .ge 118, 3) := by decide +kernel
theorem dPL_listChoices_20 : decode cPL_listChoices 20 = .ok (.aload_n 0, 1) := by decide +kernel
theorem dPL_listChoices_21 : decode cPL_listChoices 21 = .ok (.getfield 11, 3) := by decide +kernel
theorem dPL_listChoices_24 : decode cPL_listChoices 24 = .ok (.iload_n 1, 1) := by decide +kernel
theorem dPL_listChoices_25 : decode cPL_listChoices 25 = .ok (.iaload, 1) := by decide +kernel
theorem dPL_listChoices_26 : decode cPL_listChoices 26 = .ok (.istore_n 2, 1) := by decide +kernel
theorem dPL_listChoices_27 : decode cPL_listChoices 27 = .ok (.iconst 0, 1) := by decide +kernel
theorem dPL_listChoices_28 : decode cPL_listChoices 28 = .ok (.istore_n 3, 1) := by decide +kernel
theorem dPL_listChoices_29 : decode cPL_listChoices 29 = .ok (.iload_n 1, 1) := by decide +kernel
theorem dPL_listChoices_30 : decode cPL_listChoices 30 = .ok (.iconst 1, 1) := by decide +kernel
theorem dPL_listChoices_31 : decode cPL_listChoices 31 = .ok (.iadd, 1) := by decide +kernel
theorem dPL_listChoices_32 : decode cPL_listChoices 32 = .ok (.istore 4, 2) := by decide +kernel
theorem dPL_listChoices_34 : decode cPL_listChoices 34 = .ok (.iload 4, 2) := by decide +kernel
theorem dPL_listChoices_36 : decode cPL_listChoices 36 = .ok (.aload_n 0, 1) := by decide +kernel
theorem dPL_listChoices_37 : decode cPL_listChoices 37 = .ok (.getfield 18, 3) := by decide +kernel
theorem dPL_listChoices_40 : decode cPL_listChoices 40 = .ok (.if_icmp .ge 29, 3) := by decide +kernel
theorem dPL_listChoices_43 : decode cPL_listChoices 43 = .ok (.aload_n 0, 1) := by decide +kernel
theorem dPL_listChoices_44 : decode cPL_listChoices 44 = .ok (.getfield 11, 3) := by decide +kernel
theorem dPL_listChoices_47 : decode cPL_listChoices 47 = .ok (.iload 4, 2) := by decide +kernel
theorem dPL_listChoices_49 : decode cPL_listChoices 49 = .ok (.iaload, 1) := by decide +kernel
theorem dPL_listChoices_50 : decode cPL_listChoices 50 = .ok (.iload_n 2, 1) := by decide +kernel
theorem dPL_listChoices_51 : decode cPL_listChoices 51 = .ok (.if_icmp .ne 12, 3) := by decide +kernel
theorem dPL_listChoices_54 : decode cPL_listChoices 54 = .ok (.iload_n 3, 1) := by decide +kernel
theorem dPL_listChoices_55 : decode cPL_listChoices 55 = .ok (.getstatic 99, 3) := by decide +kernel
theorem dPL_listChoices_58 : decode cPL_listChoices 58 = .ok (.iload 4, 2) := by decide +kernel
theorem dPL_listChoices_60 : decode cPL_listChoices 60 = .ok (.iaload, 1) := by decide +kernel
theorem dPL_listChoices_61 : decode cPL_listChoices 61 = .ok (.ior, 1) := by decide +kernel
theorem dPL_listChoices_62 : decode cPL_listChoices 62 = .ok (.istore_n 3, 1) := by decide +kernel
theorem dPL_listChoices_63 : decode cPL_listChoices 63 = .ok (.iinc 4 1, 3) := by decide +kernel
theorem dPL_listChoices_66 : decode cPL_listChoices 66 = .ok (.goto (-32), 3) := by decide +kernel
theorem dPL_listChoices_69 : decode cPL_listChoices 69 = .ok (.aload_n 0, 1) := by decide +kernel
theorem dPL_listChoices_70 : decode cPL_listChoices 70 = .ok (.iload_n 2, 1) := by decide +kernel
theorem dPL_listChoices_71 : decode cPL_listChoices 71 = .ok (.aload_n 0, 1) := by decide +kernel
theorem dPL_listChoices_72 : decode cPL_listChoices 72 = .ok (.getfield 37, 3) := by decide +kernel
theorem dPL_listChoices_75 : decode cPL_listChoices 75 = .ok (.iload_n 2, 1) := by decide +kernel
theorem dPL_listChoices_76 : decode cPL_listChoices 76 = .ok (.aload_n 0, 1) := by decide +kernel
theorem dPL_listChoices_77 : decode cPL_listChoices 77 = .ok (.getfield 15, 3) := by decide +kernel
theorem dPL_listChoices_80 : decode cPL_listChoices 80 = .ok (.iload_n 1, 1) := by decide +kernel
theorem dPL_listChoices_81 : decode cPL_listChoices 81 = .ok (.iaload, 1) := by decide +kernel
theorem dPL_listChoices_82 : decode cPL_listChoices 82 = .ok (.invokevirtual 102, 3) := by decide +kernel
theorem dPL_listChoices_85 : decode cPL_listChoices 85 = .ok (.getstatic 99, 3) := by decide +kernel
theorem dPL_listChoices_88 : decode cPL_listChoices 88 = .ok (.iload_n 1, 1) := by decide +kernel
theorem dPL_listChoices_89 : decode cPL_listChoices 89 = .ok (.iaload, 1) := by decide +kernel
theorem dPL_listChoices_90 : decode cPL_listChoices 90 = .ok (.iload_n 3, 1) := by decide +kernel
theorem dPL_listChoices_91 : decode cPL_listChoices 91 = .ok (.iconst (-1), 1) := by decide +kernel
theorem dPL_listChoices_92 : decode cPL_listChoices 92 = .ok (.ixor, 1) := by decide +kernel
theorem dPL_listChoices_93 : decode cPL_listChoices 93 = .ok (.iand, 1) := by decide +kernel
theorem dPL_listChoices_94 : decode cPL_listChoices 94 = .ok (.invokevirtual 105, 3) := by decide +kernel
theorem dPL_listChoices_97 : decode cPL_listChoices 97 = .ok (.aload_n 0, 1) := by decide +kernel
theorem dPL_listChoices_98 : decode cPL_listChoices 98 = .ok (.iload_n 2, 1) := by decide +kernel
theorem dPL_listChoices_99 : decode cPL_listChoices 99 = .ok (.iload_n 1, 1) := by decide +kernel
theorem dPL_listChoices_100 : decode cPL_listChoices 100 = .ok (.invokevirtual 96, 3) := by decide +kernel
theorem dPL_listChoices_103 : decode cPL_listChoices 103 = .ok (.ifCond .ne 26, 3) := by decide +kernel
theorem dPL_listChoices_106 : decode cPL_listChoices 106 = .ok (.aload_n 0, 1) := by decide +kernel
theorem dPL_listChoices_107 : decode cPL_listChoices 107 = .ok (.iload_n 2, 1) := by decide +kernel
theorem dPL_listChoices_108 : decode cPL_listChoices 108 = .ok (.aload_n 0, 1) := by decide +kernel
theorem dPL_listChoices_109 : decode cPL_listChoices 109 = .ok (.getfield 37, 3) := by decide +kernel
theorem dPL_listChoices_112 : decode cPL_listChoices 112 = .ok (.getfield 85, 3) := by decide +kernel
theorem dPL_listChoices_115 : decode cPL_listChoices 115 = .ok (.iload_n 2, 1) := by decide +kernel
theorem dPL_listChoices_116 : decode cPL_listChoices 116 = .ok (.iaload, 1) := by decide +kernel
theorem dPL_listChoices_117 : decode cPL_listChoices 117 = .ok (.getstatic 99, 3) := by decide +kernel
theorem dPL_listChoices_120 : decode cPL_listChoices 120 = .ok (.iload_n 1, 1) := by decide +kernel
theorem dPL_listChoices_121 : decode cPL_listChoices 121 = .ok (.iaload, 1) := by decide +kernel
theorem dPL_listChoices_122 : decode cPL_listChoices 122 = .ok (.iload_n 3, 1) := by decide +kernel
theorem dPL_listChoices_123 : decode cPL_listChoices 123 = .ok (.ior, 1) := by decide +kernel
theorem dPL_listChoices_124 : decode cPL_listChoices 124 = .ok (.iconst (-1), 1) := by decide +kernel
theorem dPL_listChoices_125 : decode cPL_listChoices 125 = .ok (.ixor, 1) := by decide +kernel
theorem dPL_listChoices_126 : decode cPL_listChoices 126 = .ok (.invokevirtual 105, 3) := by decide +kernel
theorem dPL_listChoices_129 : decode cPL_listChoices 129 = .ok (.iinc 1 1, 3) := by decide +kernel
theorem dPL_listChoices_132 : decode cPL_listChoices 132 = .ok (.goto (-120), 3) := by decide +kernel
theorem dPL_listChoices_135 : decode cPL_listChoices 135 = .ok (.return_, 1) := by decide +kernel
theorem dPL_addChoice_0 : decode cPL_addChoice 0 = .ok (.aload_n 0, 1) := by decide +kernel
theorem dPL_addChoice_1 : decode cPL_addChoice 1 = .ok (.getfield 22, 3) := by decide +kernel
theorem dPL_addChoice_4 : decode cPL_addChoice 4 = .ok (.aload_n 0, 1) := by decide +kernel
theorem dPL_addChoice_5 : decode cPL_addChoice 5 = .ok (.getfield 31, 3) := by decide +kernel
theorem dPL_addChoice_8 : decode cPL_addChoice 8 = .ok (.iload_n 1, 1) := by decide +kernel
theorem dPL_addChoice_9 : decode cPL_addChoice 9 = .ok (.iastore, 1) := by decide +kernel
theorem dPL_addChoice_10 : decode cPL_addChoice 10 = .ok (.aload_n 0, 1) := by decide +kernel
theorem dPL_addChoice_11 : decode cPL_addChoice 11 = .ok (.getfield 25, 3) := by decide +kernel
theorem dPL_addChoice_14 : decode cPL_addChoice 14 = .ok (.aload_n 0, 1) := by decide +kernel
theorem dPL_addChoice_15 : decode cPL_addChoice 15 = .ok (.getfield 31, 3) := by decide +kernel
theorem dPL_addChoice_18 : decode cPL_addChoice 18 = .ok (.iload_n 2, 1) := by decide +kernel
theorem dPL_addChoice_19 : decode cPL_addChoice 19 = .ok (.iastore, 1) := by decide +kernel
theorem dPL_addChoice_20 : decode cPL_addChoice 20 = .ok (.aload_n 0, 1) := by decide +kernel
theorem dPL_addChoice_21 : decode cPL_addChoice 21 = .ok (.getfield 28, 3) := by decide +kernel
theorem dPL_addChoice_24 : decode cPL_addChoice 24 = .ok (.aload_n 0, 1) := by decide +kernel
theorem dPL_addChoice_25 : decode cPL_addChoice 25 = .ok (.getfield 31, 3) := by decide +kernel
theorem dPL_addChoice_28 : decode cPL_addChoice 28 = .ok (.iload_n 3, 1) := by decide +kernel
theorem dPL_addChoice_29 : decode cPL_addChoice 29 = .ok (.iastore, 1) := by decide +kernel
theorem dPL_addChoice_30 : decode cPL_addChoice 30 = .ok (.aload_n 0, 1) := by decide +kernel
theorem dPL_addChoice_31 : decode cPL_addChoice 31 = .ok (.dup, 1) := by decide +kernel
theorem dPL_addChoice_32 : decode cPL_addChoice 32 = .ok (.getfield 31, 3) := by decide +kernel
theorem dPL_addChoice_35 : decode cPL_addChoice 35 = .ok (.iconst 1, 1) := by decide +kernel
theorem dPL_addChoice_36 : decode cPL_addChoice 36 = .ok (.iadd, 1) := by decide +kernel
theorem dPL_addChoice_37 : decode cPL_addChoice 37 = .ok (.putfield 31, 3) := by decide +kernel
theorem dPL_addChoice_40 : decode cPL_addChoice 40 = .ok (.iload_n 2, 1) := by decide +kernel
theorem dPL_addChoice_41 : decode cPL_addChoice 41 = .ok (.aload_n 0, 1) := by decide +kernel
theorem dPL_addChoice_42 : decode cPL_addChoice 42 = .ok (.getfield 37, 3) := by decide +kernel
theorem dPL_addChoice_45 : decode cPL_addChoice 45 = .ok (.getfield 85, 3) := by decide +kernel
theorem dPL_addChoice_48 : decode cPL_addChoice 48 = .ok (.iload_n 1, 1) := by decide +kernel
theorem dPL_addChoice_49 : decode cPL_addChoice 49 = .ok (.iaload, 1) := by decide +kernel
theorem dPL_addChoice_50 : decode cPL_addChoice 50 = .ok (.if_icmp .ge 13, 3) := by decide +kernel
theorem dPL_addChoice_53 : decode cPL_addChoice 53 = .ok (.aload_n 0, 1) := by decide +kernel
theorem dPL_addChoice_54 : decode cPL_addChoice 54 = .ok (.dup, 1) := by decide +kernel
theorem dPL_addChoice_55 : decode cPL_addChoice 55 = .ok (.getfield 34, 3) := by decide +kernel
theorem dPL_addChoice_58 : decode cPL_addChoice 58 = .ok (.iload_n 3, 1) := by decide +kernel
theorem dPL_addChoice_59 : decode cPL_addChoice 59 = .ok (.ior, 1) := by decide +kernel
theorem dPL_addChoice_60 : decode cPL_addChoice 60 = .ok (.putfield 34, 3) := by decide +kernel
theorem dPL_addChoice_63 : decode cPL_addChoice 63 = .ok (.return_, 1) := by decide +kernel
theorem dPL_findLowTips_0 : decode cPL_findLowTips 0 = .ok (.aload_n 0, 1) := by decide +kernel
theorem dPL_findLowTips_1 : decode cPL_findLowTips 1 = .ok (.getfield 37, 3) := by decide +kernel
theorem dPL_findLowTips_4 : decode cPL_findLowTips 4 = .ok (.getfield 85, 3) := by decide +kernel
theorem dPL_findLowTips_7 : decode cPL_findLowTips 7 = .ok (.iconst 0, 1) := by decide +kernel
theorem dPL_findLowTips_8 : decode cPL_findLowTips 8 = .ok (.aload_n 0, 1) := by decide +kernel
theorem dPL_findLowTips_9 : decode cPL_findLowTips 9 = .ok (.getfield 54, 3) := by decide +kernel
theorem dPL_findLowTips_12 : decode cPL_findLowTips 12 = .ok (.iconst 0, 1) := by decide +kernel
theorem dPL_findLowTips_13 : decode cPL_findLowTips 13 = .ok (.aload_n 0, 1) := by decide +kernel
theorem dPL_findLowTips_14 : decode cPL_findLowTips 14 = .ok (.getfield 54, 3) := by decide +kernel
theorem dPL_findLowTips_17 : decode cPL_findLowTips 17 = .ok (.arraylength, 1) := by decide +kernel
theorem dPL_findLowTips_18 : decode cPL_findLowTips 18 = .ok (.invokestatic 109, 3) := by decide +kernel
theorem dPL_findLowTips_21 : decode cPL_findLowTips 21 = .ok (.iconst 0, 1) := by decide +kernel
theorem dPL_findLowTips_22 : decode cPL_findLowTips 22 = .ok (.istore_n 1, 1) := by decide +kernel
theorem dPL_findLowTips_23 : decode cPL_findLowTips 23 = .ok (.iload_n 1, 1) := by decide +kernel
theorem dPL_findLowTips_24 : decode cPL_findLowTips 24 = .ok (.aload_n 0, 1) := by decide +kernel
theorem dPL_findLowTips_25 : decode cPL_findLowTips 25 = .ok (.getfield 31, 3) := by decide +kernel
theorem dPL_findLowTips_28 : decode cPL_findLowTips 28 = .ok (.if_icmp .ge 40, 3) := by decide +kernel
theorem dPL_findLowTips_31 : decode cPL_findLowTips 31 = .ok (.aload_n 0, 1) := by decide +kernel
theorem dPL_findLowTips_32 : decode cPL_findLowTips 32 = .ok (.getfield 54, 3) := by decide +kernel
theorem dPL_findLowTips_35 : decode cPL_findLowTips 35 = .ok (.aload_n 0, 1) := by decide +kernel
theorem dPL_findLowTips_36 : decode cPL_findLowTips 36 = .ok (.getfield 22, 3) := by decide +kernel
theorem dPL_findLowTips_39 : decode cPL_findLowTips 39 = .ok (.iload_n 1, 1) := by decide +kernel
theorem dPL_findLowTips_40 : decode cPL_findLowTips 40 = .ok (.iaload, 1) := by decide +kernel
theorem dPL_findLowTips_41 : decode cPL_findLowTips 41 = .ok (.aload_n 0, 1) := by decide +kernel
theorem dPL_findLowTips_42 : decode cPL_findLowTips 42 = .ok (.getfield 54, 3) := by decide +kernel
theorem dPL_findLowTips_45 : decode cPL_findLowTips 45 = .ok (.aload_n 0, 1) := by decide +kernel
theorem dPL_findLowTips_46 : decode cPL_findLowTips 46 = .ok (.getfield 22, 3) := by decide +kernel
theorem dPL_findLowTips_49 : decode cPL_findLowTips 49 = .ok (.iload_n 1, 1) := by decide +kernel
theorem dPL_findLowTips_50 : decode cPL_findLowTips 50 = .ok (.iaload, 1) := by decide +kernel
theorem dPL_findLowTips_51 : decode cPL_findLowTips 51 = .ok (.iaload, 1) := by decide +kernel
theorem dPL_findLowTips_52 : decode cPL_findLowTips 52 = .ok (.aload_n 0, 1) := by decide +kernel
theorem dPL_findLowTips_53 : decode cPL_findLowTips 53 = .ok (.getfield 25, 3) := by decide +kernel
theorem dPL_findLowTips_56 : decode cPL_findLowTips 56 = .ok (.iload_n 1, 1) := by decide +kernel
theorem dPL_findLowTips_57 : decode cPL_findLowTips 57 = .ok (.iaload, 1) := by decide +kernel
theorem dPL_findLowTips_58 : decode cPL_findLowTips 58 = .ok (.invokestatic 115, 3) := by decide +kernel
theorem dPL_findLowTips_61 : decode cPL_findLowTips 61 = .ok (.iastore, 1) := by decide +kernel
theorem dPL_findLowTips_62 : decode cPL_findLowTips 62 = .ok (.iinc 1 1, 3) := by decide +kernel
theorem dPL_findLowTips_65 : decode cPL_findLowTips 65 = .ok (.goto (-42), 3) := by decide +kernel
theorem dPL_findLowTips_68 : decode cPL_findLowTips 68 = .ok (.return_, 1) := by decide +kernel
theorem dPL_setsThatFree_0 : decode cPL_setsThatFree 0 = .ok (.aload_n 0, 1) := by decide +kernel
theorem dPL_setsThatFree_1 : decode cPL_setsThatFree 1 = .ok (.getfield 41, 3) := by decide +kernel
theorem dPL_setsThatFree_4 : decode cPL_setsThatFree 4 = .ok (.getfield 120, 3) := by decide +kernel
theorem dPL_setsThatFree_7 : decode cPL_setsThatFree 7 = .ok (.astore_n 3, 1) := by decide +kernel
theorem dPL_setsThatFree_8 : decode cPL_setsThatFree 8 = .ok (.aload_n 0, 1) := by decide +kernel
theorem dPL_setsThatFree_9 : decode cPL_setsThatFree 9 = .ok (.getfield 41, 3) := by decide +kernel
theorem dPL_setsThatFree_12 : decode cPL_setsThatFree 12 = .ok (.getfield 124, 3) := by decide +kernel
theorem dPL_setsThatFree_15 : decode cPL_setsThatFree 15 = .ok (.iload_n 1, 1) := by decide +kernel
theorem dPL_setsThatFree_16 : decode cPL_setsThatFree 16 = .ok (.iaload, 1) := by decide +kernel
theorem dPL_setsThatFree_17 : decode cPL_setsThatFree 17 = .ok (.istore 4, 2) := by decide +kernel
theorem dPL_setsThatFree_19 : decode cPL_setsThatFree 19 = .ok (.aload_n 0, 1) := by decide +kernel
theorem dPL_setsThatFree_20 : decode cPL_setsThatFree 20 = .ok (.getfield 37, 3) := by decide +kernel
theorem dPL_setsThatFree_23 : decode cPL_setsThatFree 23 = .ok (.getfield 85, 3) := by decide +kernel
theorem dPL_setsThatFree_26 : decode cPL_setsThatFree 26 = .ok (.iload_n 1, 1) := by decide +kernel
theorem dPL_setsThatFree_27 : decode cPL_setsThatFree 27 = .ok (.iaload, 1) := by decide +kernel
theorem dPL_setsThatFree_28 : decode cPL_setsThatFree 28 = .ok (.istore 5, 2) := by decide +kernel
theorem dPL_setsThatFree_30 : decode cPL_setsThatFree 30 = .ok (.aload_n 0, 1) := by decide +kernel
theorem dPL_setsThatFree_31 : decode cPL_setsThatFree 31 = .ok (.getfield 41, 3) := by decide +kernel
theorem dPL_setsThatFree_34 : decode cPL_setsThatFree 34 = .ok (.getfield 127, 3) := by decide +kernel
theorem dPL_setsThatFree_37 : decode cPL_setsThatFree 37 = .ok (.iload_n 1, 1) := by decide +kernel
theorem dPL_setsThatFree_38 : decode cPL_setsThatFree 38 = .ok (.iaload, 1) := by decide +kernel
theorem dPL_setsThatFree_39 : decode cPL_setsThatFree 39 = .ok (.istore 6, 2) := by decide +kernel
theorem dPL_setsThatFree_41 : decode cPL_setsThatFree 41 = .ok (.iload_n 2, 1) := by decide +kernel
theorem dPL_setsThatFree_42 : decode cPL_setsThatFree 42 = .ok (.istore 7, 2) := by decide +kernel
theorem dPL_setsThatFree_44 : decode cPL_setsThatFree 44 = .ok (.iconst 0, 1) := by decide +kernel
theorem dPL_setsThatFree_45 : decode cPL_setsThatFree 45 = .ok (.istore 8, 2) := by decide +kernel
theorem dPL_setsThatFree_47 : decode cPL_setsThatFree 47 = .ok (.iload 8, 2) := by decide +kernel
theorem dPL_setsThatFree_49 : decode cPL_setsThatFree 49 = .ok (.aload_n 3, 1) := by decide +kernel
theorem dPL_setsThatFree_50 : decode cPL_setsThatFree 50 = .ok (.getfield 130, 3) := by decide +kernel
theorem dPL_setsThatFree_53 : decode cPL_setsThatFree 53 = .ok (.if_icmp .ge 102, 3) := by decide +kernel
theorem dPL_setsThatFree_56 : decode cPL_setsThatFree 56 = .ok (.iload 6, 2) := by decide +kernel
theorem dPL_setsThatFree_58 : decode cPL_setsThatFree 58 = .ok (.ifCond .le 97, 3) := by decide +kernel
theorem dPL_setsThatFree_61 : decode cPL_setsThatFree 61 = .ok (.iload 7, 2) := by decide +kernel
theorem dPL_setsThatFree_63 : decode cPL_setsThatFree 63 = .ok (.ifCond .eq 92, 3) := by decide +kernel
theorem dPL_setsThatFree_66 : decode cPL_setsThatFree 66 = .ok (.iload 5, 2) := by decide +kernel
theorem dPL_setsThatFree_68 : decode cPL_setsThatFree 68 = .ok (.aload_n 3, 1) := by decide +kernel
theorem dPL_setsThatFree_69 : decode cPL_setsThatFree 69 = .ok (.getfield 135, 3) := by decide +kernel
theorem dPL_setsThatFree_72 : decode cPL_setsThatFree 72 = .ok (.iload 8, 2) := by decide +kernel
theorem dPL_setsThatFree_74 : decode cPL_setsThatFree 74 = .ok (.iaload, 1) := by decide +kernel
theorem dPL_setsThatFree_75 : decode cPL_setsThatFree 75 = .ok (.iadd, 1) := by decide +kernel
theorem dPL_setsThatFree_76 : decode cPL_setsThatFree 76 = .ok (.istore 9, 2) := by decide +kernel
theorem dPL_setsThatFree_78 : decode cPL_setsThatFree 78 = .ok (.aload_n 0, 1) := by decide +kernel
theorem dPL_setsThatFree_79 : decode cPL_setsThatFree 79 = .ok (.getfield 41, 3) := by decide +kernel
theorem dPL_setsThatFree_82 : decode cPL_setsThatFree 82 = .ok (.getfield 138, 3) := by decide +kernel
theorem dPL_setsThatFree_85 : decode cPL_setsThatFree 85 = .ok (.iload 4, 2) := by decide +kernel
theorem dPL_setsThatFree_87 : decode cPL_setsThatFree 87 = .ok (.aload_n 3, 1) := by decide +kernel
theorem dPL_setsThatFree_88 : decode cPL_setsThatFree 88 = .ok (.getfield 141, 3) := by decide +kernel
theorem dPL_setsThatFree_91 : decode cPL_setsThatFree 91 = .ok (.iload 8, 2) := by decide +kernel
theorem dPL_setsThatFree_93 : decode cPL_setsThatFree 93 = .ok (.iaload, 1) := by decide +kernel
theorem dPL_setsThatFree_94 : decode cPL_setsThatFree 94 = .ok (.iadd, 1) := by decide +kernel
theorem dPL_setsThatFree_95 : decode cPL_setsThatFree 95 = .ok (.iaload, 1) := by decide +kernel
theorem dPL_setsThatFree_96 : decode cPL_setsThatFree 96 = .ok (.iload 9, 2) := by decide +kernel
theorem dPL_setsThatFree_98 : decode cPL_setsThatFree 98 = .ok (.if_icmp .ne 51, 3) := by decide +kernel
theorem dPL_setsThatFree_101 : decode cPL_setsThatFree 101 = .ok (.iinc 6 (-1), 3) := by decide +kernel
theorem dPL_setsThatFree_104 : decode cPL_setsThatFree 104 = .ok (.iload 7, 2) := by decide +kernel
theorem dPL_setsThatFree_106 : decode cPL_setsThatFree 106 = .ok (.aload_n 0, 1) := by decide +kernel
theorem dPL_setsThatFree_107 : decode cPL_setsThatFree 107 = .ok (.iload 9, 2) := by decide +kernel
theorem dPL_setsThatFree_109 : decode cPL_setsThatFree 109 = .ok (.aload_n 0, 1) := by decide +kernel
theorem dPL_setsThatFree_110 : decode cPL_setsThatFree 110 = .ok (.getfield 37, 3) := by decide +kernel
theorem dPL_setsThatFree_113 : decode cPL_setsThatFree 113 = .ok (.getfield 144, 3) := by decide +kernel
theorem dPL_setsThatFree_116 : decode cPL_setsThatFree 116 = .ok (.iload_n 1, 1) := by decide +kernel
theorem dPL_setsThatFree_117 : decode cPL_setsThatFree 117 = .ok (.iaload, 1) := by decide +kernel
theorem dPL_setsThatFree_118 : decode cPL_setsThatFree 118 = .ok (.aload_n 3, 1) := by decide +kernel
theorem dPL_setsThatFree_119 : decode cPL_setsThatFree 119 = .ok (.getfield 147, 3) := by decide +kernel
theorem dPL_setsThatFree_122 : decode cPL_setsThatFree 122 = .ok (.iload 8, 2) := by decide +kernel
theorem dPL_setsThatFree_124 : decode cPL_setsThatFree 124 = .ok (.iaload, 1) := by decide +kernel
theorem dPL_setsThatFree_125 : decode cPL_setsThatFree 125 = .ok (.iadd, 1) := by decide +kernel
theorem dPL_setsThatFree_126 : decode cPL_setsThatFree 126 = .ok (.aload_n 0, 1) := by decide +kernel
theorem dPL_setsThatFree_127 : decode cPL_setsThatFree 127 = .ok (.getfield 37, 3) := by decide +kernel
theorem dPL_setsThatFree_130 : decode cPL_setsThatFree 130 = .ok (.getfield 150, 3) := by decide +kernel
theorem dPL_setsThatFree_133 : decode cPL_setsThatFree 133 = .ok (.iload_n 1, 1) := by decide +kernel
theorem dPL_setsThatFree_134 : decode cPL_setsThatFree 134 = .ok (.iaload, 1) := by decide +kernel
theorem dPL_setsThatFree_135 : decode cPL_setsThatFree 135 = .ok (.aload_n 3, 1) := by decide +kernel
theorem dPL_setsThatFree_136 : decode cPL_setsThatFree 136 = .ok (.getfield 153, 3) := by decide +kernel
theorem dPL_setsThatFree_139 : decode cPL_setsThatFree 139 = .ok (.iload 8, 2) := by decide +kernel
theorem dPL_setsThatFree_141 : decode cPL_setsThatFree 141 = .ok (.iaload, 1) := by decide +kernel
theorem dPL_setsThatFree_142 : decode cPL_setsThatFree 142 = .ok (.iadd, 1) := by decide +kernel
theorem dPL_setsThatFree_143 : decode cPL_setsThatFree 143 = .ok (.invokevirtual 156, 3) := by decide +kernel
theorem dPL_setsThatFree_146 : decode cPL_setsThatFree 146 = .ok (.iand, 1) := by decide +kernel
theorem dPL_setsThatFree_147 : decode cPL_setsThatFree 147 = .ok (.istore 7, 2) := by decide +kernel
theorem dPL_setsThatFree_149 : decode cPL_setsThatFree 149 = .ok (.iinc 8 1, 3) := by decide +kernel
theorem dPL_setsThatFree_152 : decode cPL_setsThatFree 152 = .ok (.goto (-105), 3) := by decide +kernel
theorem dPL_setsThatFree_155 : decode cPL_setsThatFree 155 = .ok (.iload 7, 2) := by decide +kernel
theorem dPL_setsThatFree_157 : decode cPL_setsThatFree 157 = .ok (.ireturn, 1) := by decide +kernel
theorem dPL_setsThatSave_0 : decode cPL_setsThatSave 0 = .ok (.iconst 0, 1) := by decide +kernel
theorem dPL_setsThatSave_1 : decode cPL_setsThatSave 1 = .ok (.istore_n 3, 1) := by decide +kernel
theorem dPL_setsThatSave_2 : decode cPL_setsThatSave 2 = .ok (.iconst 0, 1) := by decide +kernel
theorem dPL_setsThatSave_3 : decode cPL_setsThatSave 3 = .ok (.istore 4, 2) := by decide +kernel
theorem dPL_setsThatSave_5 : decode cPL_setsThatSave 5 = .ok (.iload 4, 2) := by decide +kernel
theorem dPL_setsThatSave_7 : decode cPL_setsThatSave 7 = .ok (.aload_n 0, 1) := by decide +kernel
theorem dPL_setsThatSave_8 : decode cPL_setsThatSave 8 = .ok (.getfield 31, 3) := by decide +kernel
theorem dPL_setsThatSave_11 : decode cPL_setsThatSave 11 = .ok (.if_icmp .ge 44, 3) := by decide +kernel
theorem dPL_setsThatSave_14 : decode cPL_setsThatSave 14 = .ok (.aload_n 0, 1) := by decide +kernel
theorem dPL_setsThatSave_15 : decode cPL_setsThatSave 15 = .ok (.getfield 22, 3) := by decide +kernel
theorem dPL_setsThatSave_18 : decode cPL_setsThatSave 18 = .ok (.iload 4, 2) := by decide +kernel
theorem dPL_setsThatSave_20 : decode cPL_setsThatSave 20 = .ok (.iaload, 1) := by decide +kernel
theorem dPL_setsThatSave_21 : decode cPL_setsThatSave 21 = .ok (.iload_n 1, 1) := by decide +kernel
theorem dPL_setsThatSave_22 : decode cPL_setsThatSave 22 = .ok (.if_icmp .ne 27, 3) := by decide +kernel
theorem dPL_setsThatSave_25 : decode cPL_setsThatSave 25 = .ok (.iload_n 3, 1) := by decide +kernel
theorem dPL_setsThatSave_26 : decode cPL_setsThatSave 26 = .ok (.aload_n 0, 1) := by decide +kernel
theorem dPL_setsThatSave_27 : decode cPL_setsThatSave 27 = .ok (.iload_n 1, 1) := by decide +kernel
theorem dPL_setsThatSave_28 : decode cPL_setsThatSave 28 = .ok (.aload_n 0, 1) := by decide +kernel
theorem dPL_setsThatSave_29 : decode cPL_setsThatSave 29 = .ok (.getfield 25, 3) := by decide +kernel
theorem dPL_setsThatSave_32 : decode cPL_setsThatSave 32 = .ok (.iload 4, 2) := by decide +kernel
theorem dPL_setsThatSave_34 : decode cPL_setsThatSave 34 = .ok (.iaload, 1) := by decide +kernel
theorem dPL_setsThatSave_35 : decode cPL_setsThatSave 35 = .ok (.iload_n 2, 1) := by decide +kernel
theorem dPL_setsThatSave_36 : decode cPL_setsThatSave 36 = .ok (.aload_n 0, 1) := by decide +kernel
theorem dPL_setsThatSave_37 : decode cPL_setsThatSave 37 = .ok (.getfield 28, 3) := by decide +kernel
theorem dPL_setsThatSave_40 : decode cPL_setsThatSave 40 = .ok (.iload 4, 2) := by decide +kernel
theorem dPL_setsThatSave_42 : decode cPL_setsThatSave 42 = .ok (.iaload, 1) := by decide +kernel
theorem dPL_setsThatSave_43 : decode cPL_setsThatSave 43 = .ok (.iand, 1) := by decide +kernel
theorem dPL_setsThatSave_44 : decode cPL_setsThatSave 44 = .ok (.invokevirtual 160, 3) := by decide +kernel
theorem dPL_setsThatSave_47 : decode cPL_setsThatSave 47 = .ok (.ior, 1) := by decide +kernel
theorem dPL_setsThatSave_48 : decode cPL_setsThatSave 48 = .ok (.istore_n 3, 1) := by decide +kernel
theorem dPL_setsThatSave_49 : decode cPL_setsThatSave 49 = .ok (.iinc 4 1, 3) := by decide +kernel
theorem dPL_setsThatSave_52 : decode cPL_setsThatSave 52 = .ok (.goto (-47), 3) := by decide +kernel
theorem dPL_setsThatSave_55 : decode cPL_setsThatSave 55 = .ok (.iload_n 3, 1) := by decide +kernel
theorem dPL_setsThatSave_56 : decode cPL_setsThatSave 56 = .ok (.ireturn, 1) := by decide +kernel
theorem dPL_setsThatCover_0 : decode cPL_setsThatCover 0 = .ok (.aload_n 0, 1) := by decide +kernel
theorem dPL_setsThatCover_1 : decode cPL_setsThatCover 1 = .ok (.getfield 41, 3) := by decide +kernel
theorem dPL_setsThatCover_4 : decode cPL_setsThatCover 4 = .ok (.getfield 120, 3) := by decide +kernel
theorem dPL_setsThatCover_7 : decode cPL_setsThatCover 7 = .ok (.astore 4, 2) := by decide +kernel
theorem dPL_setsThatCover_9 : decode cPL_setsThatCover 9 = .ok (.aload_n 0, 1) := by decide +kernel
theorem dPL_setsThatCover_10 : decode cPL_setsThatCover 10 = .ok (.getfield 41, 3) := by decide +kernel
theorem dPL_setsThatCover_13 : decode cPL_setsThatCover 13 = .ok (.getfield 124, 3) := by decide +kernel
theorem dPL_setsThatCover_16 : decode cPL_setsThatCover 16 = .ok (.iload_n 1, 1) := by decide +kernel
theorem dPL_setsThatCover_17 : decode cPL_setsThatCover 17 = .ok (.iaload, 1) := by decide +kernel
theorem dPL_setsThatCover_18 : decode cPL_setsThatCover 18 = .ok (.istore 5, 2) := by decide +kernel
theorem dPL_setsThatCover_20 : decode cPL_setsThatCover 20 = .ok (.iload_n 3, 1) := by decide +kernel
theorem dPL_setsThatCover_21 : decode cPL_setsThatCover 21 = .ok (.istore 6, 2) := by decide +kernel
theorem dPL_setsThatCover_23 : decode cPL_setsThatCover 23 = .ok (.iconst 0, 1) := by decide +kernel
theorem dPL_setsThatCover_24 : decode cPL_setsThatCover 24 = .ok (.istore 7, 2) := by decide +kernel
theorem dPL_setsThatCover_26 : decode cPL_setsThatCover 26 = .ok (.iload 7, 2) := by decide +kernel
theorem dPL_setsThatCover_28 : decode cPL_setsThatCover 28 = .ok (.aload 4, 2) := by decide +kernel
theorem dPL_setsThatCover_30 : decode cPL_setsThatCover 30 = .ok (.getfield 130, 3) := by decide +kernel
theorem dPL_setsThatCover_33 : decode cPL_setsThatCover 33 = .ok (.if_icmp .ge 151, 3) := by decide +kernel
theorem dPL_setsThatCover_36 : decode cPL_setsThatCover 36 = .ok (.iload_n 2, 1) := by decide +kernel
theorem dPL_setsThatCover_37 : decode cPL_setsThatCover 37 = .ok (.aload 4, 2) := by decide +kernel
theorem dPL_setsThatCover_39 : decode cPL_setsThatCover 39 = .ok (.getfield 135, 3) := by decide +kernel
theorem dPL_setsThatCover_42 : decode cPL_setsThatCover 42 = .ok (.iload 7, 2) := by decide +kernel
theorem dPL_setsThatCover_44 : decode cPL_setsThatCover 44 = .ok (.iaload, 1) := by decide +kernel
theorem dPL_setsThatCover_45 : decode cPL_setsThatCover 45 = .ok (.iadd, 1) := by decide +kernel
theorem dPL_setsThatCover_46 : decode cPL_setsThatCover 46 = .ok (.aload_n 0, 1) := by decide +kernel
theorem dPL_setsThatCover_47 : decode cPL_setsThatCover 47 = .ok (.getfield 41, 3) := by decide +kernel
theorem dPL_setsThatCover_50 : decode cPL_setsThatCover 50 = .ok (.getfield 163, 3) := by decide +kernel
theorem dPL_setsThatCover_53 : decode cPL_setsThatCover 53 = .ok (.if_icmp .lt 131, 3) := by decide +kernel
theorem dPL_setsThatCover_56 : decode cPL_setsThatCover 56 = .ok (.iload 6, 2) := by decide +kernel
theorem dPL_setsThatCover_58 : decode cPL_setsThatCover 58 = .ok (.ifCond .eq 126, 3) := by decide +kernel
theorem dPL_setsThatCover_61 : decode cPL_setsThatCover 61 = .ok (.iload_n 2, 1) := by decide +kernel
theorem dPL_setsThatCover_62 : decode cPL_setsThatCover 62 = .ok (.aload 4, 2) := by decide +kernel
theorem dPL_setsThatCover_64 : decode cPL_setsThatCover 64 = .ok (.getfield 135, 3) := by decide +kernel
theorem dPL_setsThatCover_67 : decode cPL_setsThatCover 67 = .ok (.iload 7, 2) := by decide +kernel
theorem dPL_setsThatCover_69 : decode cPL_setsThatCover 69 = .ok (.iaload, 1) := by decide +kernel
theorem dPL_setsThatCover_70 : decode cPL_setsThatCover 70 = .ok (.iadd, 1) := by decide +kernel
theorem dPL_setsThatCover_71 : decode cPL_setsThatCover 71 = .ok (.istore 8, 2) := by decide +kernel
theorem dPL_setsThatCover_73 : decode cPL_setsThatCover 73 = .ok (.iload 5, 2) := by decide +kernel
theorem dPL_setsThatCover_75 : decode cPL_setsThatCover 75 = .ok (.aload 4, 2) := by decide +kernel
theorem dPL_setsThatCover_77 : decode cPL_setsThatCover 77 = .ok (.getfield 141, 3) := by decide +kernel
theorem dPL_setsThatCover_80 : decode cPL_setsThatCover 80 = .ok (.iload 7, 2) := by decide +kernel
theorem dPL_setsThatCover_82 : decode cPL_setsThatCover 82 = .ok (.iaload, 1) := by decide +kernel
theorem dPL_setsThatCover_83 : decode cPL_setsThatCover 83 = .ok (.iadd, 1) := by decide +kernel
theorem dPL_setsThatCover_84 : decode cPL_setsThatCover 84 = .ok (.istore 9, 2) := by decide +kernel
theorem dPL_setsThatCover_86 : decode cPL_setsThatCover 86 = .ok (.aload_n 0, 1) := by decide +kernel
theorem dPL_setsThatCover_87 : decode cPL_setsThatCover 87 = .ok (.getfield 37, 3) := by decide +kernel
theorem dPL_setsThatCover_90 : decode cPL_setsThatCover 90 = .ok (.getfield 144, 3) := by decide +kernel
theorem dPL_setsThatCover_93 : decode cPL_setsThatCover 93 = .ok (.iload_n 1, 1) := by decide +kernel
theorem dPL_setsThatCover_94 : decode cPL_setsThatCover 94 = .ok (.iaload, 1) := by decide +kernel
theorem dPL_setsThatCover_95 : decode cPL_setsThatCover 95 = .ok (.aload 4, 2) := by decide +kernel
theorem dPL_setsThatCover_97 : decode cPL_setsThatCover 97 = .ok (.getfield 147, 3) := by decide +kernel
theorem dPL_setsThatCover_100 : decode cPL_setsThatCover 100 = .ok (.iload 7, 2) := by decide +kernel
theorem dPL_setsThatCover_102 : decode cPL_setsThatCover 102 = .ok (.iaload, 1) := by decide +kernel
theorem dPL_setsThatCover_103 : decode cPL_setsThatCover 103 = .ok (.iadd, 1) := by decide +kernel
theorem dPL_setsThatCover_104 : decode cPL_setsThatCover 104 = .ok (.istore 10, 2) := by decide +kernel
theorem dPL_setsThatCover_106 : decode cPL_setsThatCover 106 = .ok (.aload_n 0, 1) := by decide +kernel
theorem dPL_setsThatCover_107 : decode cPL_setsThatCover 107 = .ok (.getfield 37, 3) := by decide +kernel
theorem dPL_setsThatCover_110 : decode cPL_setsThatCover 110 = .ok (.getfield 150, 3) := by decide +kernel
theorem dPL_setsThatCover_113 : decode cPL_setsThatCover 113 = .ok (.iload_n 1, 1) := by decide +kernel
theorem dPL_setsThatCover_114 : decode cPL_setsThatCover 114 = .ok (.iaload, 1) := by decide +kernel
theorem dPL_setsThatCover_115 : decode cPL_setsThatCover 115 = .ok (.aload 4, 2) := by decide +kernel
theorem dPL_setsThatCover_117 : decode cPL_setsThatCover 117 = .ok (.getfield 153, 3) := by decide +kernel
theorem dPL_setsThatCover_120 : decode cPL_setsThatCover 120 = .ok (.iload 7, 2) := by decide +kernel
theorem dPL_setsThatCover_122 : decode cPL_setsThatCover 122 = .ok (.iaload, 1) := by decide +kernel
theorem dPL_setsThatCover_123 : decode cPL_setsThatCover 123 = .ok (.iadd, 1) := by decide +kernel
theorem dPL_setsThatCover_124 : decode cPL_setsThatCover 124 = .ok (.istore 11, 2) := by decide +kernel
theorem dPL_setsThatCover_126 : decode cPL_setsThatCover 126 = .ok (.aload_n 0, 1) := by decide +kernel
theorem dPL_setsThatCover_127 : decode cPL_setsThatCover 127 = .ok (.getfield 41, 3) := by decide +kernel
theorem dPL_setsThatCover_130 : decode cPL_setsThatCover 130 = .ok (.getfield 138, 3) := by decide +kernel
theorem dPL_setsThatCover_133 : decode cPL_setsThatCover 133 = .ok (.iload 9, 2) := by decide +kernel
theorem dPL_setsThatCover_135 : decode cPL_setsThatCover 135 = .ok (.iaload, 1) := by decide +kernel
theorem dPL_setsThatCover_136 : decode cPL_setsThatCover 136 = .ok (.iload 8, 2) := by decide +kernel
theorem dPL_setsThatCover_138 : decode cPL_setsThatCover 138 = .ok (.if_icmp .le 25, 3) := by decide +kernel
theorem dPL_setsThatCover_141 : decode cPL_setsThatCover 141 = .ok (.aload_n 0, 1) := by decide +kernel
theorem dPL_setsThatCover_142 : decode cPL_setsThatCover 142 = .ok (.iload 9, 2) := by decide +kernel
theorem dPL_setsThatCover_144 : decode cPL_setsThatCover 144 = .ok (.invokevirtual 166, 3) := by decide +kernel
theorem dPL_setsThatCover_147 : decode cPL_setsThatCover 147 = .ok (.ifCond .eq 31, 3) := by decide +kernel
theorem dPL_setsThatCover_150 : decode cPL_setsThatCover 150 = .ok (.aload_n 0, 1) := by decide +kernel
theorem dPL_setsThatCover_151 : decode cPL_setsThatCover 151 = .ok (.iload 10, 2) := by decide +kernel
theorem dPL_setsThatCover_153 : decode cPL_setsThatCover 153 = .ok (.iload 11, 2) := by decide +kernel
theorem dPL_setsThatCover_155 : decode cPL_setsThatCover 155 = .ok (.invokevirtual 169, 3) := by decide +kernel
theorem dPL_setsThatCover_158 : decode cPL_setsThatCover 158 = .ok (.iload 8, 2) := by decide +kernel
theorem dPL_setsThatCover_160 : decode cPL_setsThatCover 160 = .ok (.if_icmp .gt 18, 3) := by decide +kernel
theorem dPL_setsThatCover_163 : decode cPL_setsThatCover 163 = .ok (.iload 6, 2) := by decide +kernel
theorem dPL_setsThatCover_165 : decode cPL_setsThatCover 165 = .ok (.aload_n 0, 1) := by decide +kernel
theorem dPL_setsThatCover_166 : decode cPL_setsThatCover 166 = .ok (.iload 8, 2) := by decide +kernel
theorem dPL_setsThatCover_168 : decode cPL_setsThatCover 168 = .ok (.iload 10, 2) := by decide +kernel
theorem dPL_setsThatCover_170 : decode cPL_setsThatCover 170 = .ok (.iload 11, 2) := by decide +kernel
theorem dPL_setsThatCover_172 : decode cPL_setsThatCover 172 = .ok (.invokevirtual 156, 3) := by decide +kernel
theorem dPL_setsThatCover_175 : decode cPL_setsThatCover 175 = .ok (.iand, 1) := by decide +kernel
theorem dPL_setsThatCover_176 : decode cPL_setsThatCover 176 = .ok (.istore 6, 2) := by decide +kernel
theorem dPL_setsThatCover_178 : decode cPL_setsThatCover 178 = .ok (.iinc 7 1, 3) := by decide +kernel
theorem dPL_setsThatCover_181 : decode cPL_setsThatCover 181 = .ok (.goto (-155), 3) := by decide +kernel
theorem dPL_setsThatCover_184 : decode cPL_setsThatCover 184 = .ok (.iload 6, 2) := by decide +kernel
theorem dPL_setsThatCover_186 : decode cPL_setsThatCover 186 = .ok (.ireturn, 1) := by decide +kernel
theorem dPL_maySink_0 : decode cPL_maySink 0 = .ok (.aload_n 0, 1) := by decide +kernel
theorem dPL_maySink_1 : decode cPL_maySink 1 = .ok (.getfield 41, 3) := by decide +kernel
theorem dPL_maySink_4 : decode cPL_maySink 4 = .ok (.getfield 172, 3) := by decide +kernel
theorem dPL_maySink_7 : decode cPL_maySink 7 = .ok (.iload_n 1, 1) := by decide +kernel
theorem dPL_maySink_8 : decode cPL_maySink 8 = .ok (.iaload, 1) := by decide +kernel
theorem dPL_maySink_9 : decode cPL_maySink 9 = .ok (.istore_n 2, 1) := by decide +kernel
theorem dPL_maySink_10 : decode cPL_maySink 10 = .ok (.iload_n 2, 1) := by decide +kernel
theorem dPL_maySink_11 : decode cPL_maySink 11 = .ok (.iconst (-1), 1) := by decide +kernel
theorem dPL_maySink_12 : decode cPL_maySink 12 = .ok (.if_icmp .eq 25, 3) := by decide +kernel
theorem dPL_maySink_15 : decode cPL_maySink 15 = .ok (.aload_n 0, 1) := by decide +kernel
theorem dPL_maySink_16 : decode cPL_maySink 16 = .ok (.getfield 54, 3) := by decide +kernel
theorem dPL_maySink_19 : decode cPL_maySink 19 = .ok (.iload_n 2, 1) := by decide +kernel
theorem dPL_maySink_20 : decode cPL_maySink 20 = .ok (.iaload, 1) := by decide +kernel
theorem dPL_maySink_21 : decode cPL_maySink 21 = .ok (.aload_n 0, 1) := by decide +kernel
theorem dPL_maySink_22 : decode cPL_maySink 22 = .ok (.getfield 37, 3) := by decide +kernel
theorem dPL_maySink_25 : decode cPL_maySink 25 = .ok (.getfield 85, 3) := by decide +kernel
theorem dPL_maySink_28 : decode cPL_maySink 28 = .ok (.iload_n 2, 1) := by decide +kernel
theorem dPL_maySink_29 : decode cPL_maySink 29 = .ok (.iaload, 1) := by decide +kernel
theorem dPL_maySink_30 : decode cPL_maySink 30 = .ok (.if_icmp .ge 7, 3) := by decide +kernel
theorem dPL_maySink_33 : decode cPL_maySink 33 = .ok (.iconst 1, 1) := by decide +kernel
theorem dPL_maySink_34 : decode cPL_maySink 34 = .ok (.goto 4, 3) := by decide +kernel
theorem dPL_maySink_37 : decode cPL_maySink 37 = .ok (.iconst 0, 1) := by decide +kernel
theorem dPL_maySink_38 : decode cPL_maySink 38 = .ok (.ireturn, 1) := by decide +kernel
theorem dPL_lowRest_0 : decode cPL_lowRest 0 = .ok (.aload_n 0, 1) := by decide +kernel
theorem dPL_lowRest_1 : decode cPL_lowRest 1 = .ok (.getfield 41, 3) := by decide +kernel
theorem dPL_lowRest_4 : decode cPL_lowRest 4 = .ok (.aload_n 0, 1) := by decide +kernel
theorem dPL_lowRest_5 : decode cPL_lowRest 5 = .ok (.getfield 54, 3) := by decide +kernel
theorem dPL_lowRest_8 : decode cPL_lowRest 8 = .ok (.iload_n 1, 1) := by decide +kernel
theorem dPL_lowRest_9 : decode cPL_lowRest 9 = .ok (.iload_n 2, 1) := by decide +kernel
theorem dPL_lowRest_10 : decode cPL_lowRest 10 = .ok (.aload_n 0, 1) := by decide +kernel
theorem dPL_lowRest_11 : decode cPL_lowRest 11 = .ok (.getfield 41, 3) := by decide +kernel
theorem dPL_lowRest_14 : decode cPL_lowRest 14 = .ok (.getfield 163, 3) := by decide +kernel
theorem dPL_lowRest_17 : decode cPL_lowRest 17 = .ok (.invokevirtual 175, 3) := by decide +kernel
theorem dPL_lowRest_20 : decode cPL_lowRest 20 = .ok (.ireturn, 1) := by decide +kernel
theorem dPL_setsThatMayLower_0 : decode cPL_setsThatMayLower 0 = .ok (.aload_n 0, 1) := by decide +kernel
theorem dPL_setsThatMayLower_1 : decode cPL_setsThatMayLower 1 = .ok (.getfield 41, 3) := by decide +kernel
theorem dPL_setsThatMayLower_4 : decode cPL_setsThatMayLower 4 = .ok (.getfield 120, 3) := by decide +kernel
theorem dPL_setsThatMayLower_7 : decode cPL_setsThatMayLower 7 = .ok (.astore_n 3, 1) := by decide +kernel
theorem dPL_setsThatMayLower_8 : decode cPL_setsThatMayLower 8 = .ok (.aload_n 0, 1) := by decide +kernel
theorem dPL_setsThatMayLower_9 : decode cPL_setsThatMayLower 9 = .ok (.getfield 41, 3) := by decide +kernel
theorem dPL_setsThatMayLower_12 : decode cPL_setsThatMayLower 12 = .ok (.getfield 124, 3) := by decide +kernel
theorem dPL_setsThatMayLower_15 : decode cPL_setsThatMayLower 15 = .ok (.iload_n 1, 1) := by decide +kernel
theorem dPL_setsThatMayLower_16 : decode cPL_setsThatMayLower 16 = .ok (.iaload, 1) := by decide +kernel
theorem dPL_setsThatMayLower_17 : decode cPL_setsThatMayLower 17 = .ok (.istore 4, 2) := by decide +kernel
theorem dPL_setsThatMayLower_19 : decode cPL_setsThatMayLower 19 = .ok (.iload_n 2, 1) := by decide +kernel
theorem dPL_setsThatMayLower_20 : decode cPL_setsThatMayLower 20 = .ok (.istore 5, 2) := by decide +kernel
theorem dPL_setsThatMayLower_22 : decode cPL_setsThatMayLower 22 = .ok (.iconst 0, 1) := by decide +kernel
theorem dPL_setsThatMayLower_23 : decode cPL_setsThatMayLower 23 = .ok (.istore 6, 2) := by decide +kernel
theorem dPL_setsThatMayLower_25 : decode cPL_setsThatMayLower 25 = .ok (.iload 6, 2) := by decide +kernel
theorem dPL_setsThatMayLower_27 : decode cPL_setsThatMayLower 27 = .ok (.aload_n 3, 1) := by decide +kernel
theorem dPL_setsThatMayLower_28 : decode cPL_setsThatMayLower 28 = .ok (.getfield 130, 3) := by decide +kernel
theorem dPL_setsThatMayLower_31 : decode cPL_setsThatMayLower 31 = .ok (.if_icmp .ge 106, 3) := by decide +kernel
theorem dPL_setsThatMayLower_34 : decode cPL_setsThatMayLower 34 = .ok (.iload 5, 2) := by decide +kernel
theorem dPL_setsThatMayLower_36 : decode cPL_setsThatMayLower 36 = .ok (.ifCond .eq 101, 3) := by decide +kernel
end
section
theorem dPL_setsThatMayLower_39 : decode cPL_setsThatMayLower 39 = .ok (.aload_n 0, 1) := by decide +kernel
theorem dPL_setsThatMayLower_40 : decode cPL_setsThatMayLower 40 = .ok (.getfield 41, 3) := by decide +kernel
theorem dPL_setsThatMayLower_43 : decode cPL_setsThatMayLower 43 = .ok (.getfield 172, 3) := by decide +kernel
theorem dPL_setsThatMayLower_46 : decode cPL_setsThatMayLower 46 = .ok (.iload 4, 2) := by decide +kernel
theorem dPL_setsThatMayLower_48 : decode cPL_setsThatMayLower 48 = .ok (.aload_n 3, 1) := by decide +kernel
theorem dPL_setsThatMayLower_49 : decode cPL_setsThatMayLower 49 = .ok (.getfield 141, 3) := by decide +kernel
theorem dPL_setsThatMayLower_52 : decode cPL_setsThatMayLower 52 = .ok (.iload 6, 2) := by decide +kernel
theorem dPL_setsThatMayLower_54 : decode cPL_setsThatMayLower 54 = .ok (.iaload, 1) := by decide +kernel
theorem dPL_setsThatMayLower_55 : decode cPL_setsThatMayLower 55 = .ok (.iadd, 1) := by decide +kernel
theorem dPL_setsThatMayLower_56 : decode cPL_setsThatMayLower 56 = .ok (.iaload, 1) := by decide +kernel
theorem dPL_setsThatMayLower_57 : decode cPL_setsThatMayLower 57 = .ok (.iload_n 1, 1) := by decide +kernel
theorem dPL_setsThatMayLower_58 : decode cPL_setsThatMayLower 58 = .ok (.if_icmp .ne 73, 3) := by decide +kernel
theorem dPL_setsThatMayLower_61 : decode cPL_setsThatMayLower 61 = .ok (.aload_n 0, 1) := by decide +kernel
theorem dPL_setsThatMayLower_62 : decode cPL_setsThatMayLower 62 = .ok (.getfield 37, 3) := by decide +kernel
theorem dPL_setsThatMayLower_65 : decode cPL_setsThatMayLower 65 = .ok (.getfield 144, 3) := by decide +kernel
theorem dPL_setsThatMayLower_68 : decode cPL_setsThatMayLower 68 = .ok (.iload_n 1, 1) := by decide +kernel
theorem dPL_setsThatMayLower_69 : decode cPL_setsThatMayLower 69 = .ok (.iaload, 1) := by decide +kernel
theorem dPL_setsThatMayLower_70 : decode cPL_setsThatMayLower 70 = .ok (.aload_n 3, 1) := by decide +kernel
theorem dPL_setsThatMayLower_71 : decode cPL_setsThatMayLower 71 = .ok (.getfield 147, 3) := by decide +kernel
theorem dPL_setsThatMayLower_74 : decode cPL_setsThatMayLower 74 = .ok (.iload 6, 2) := by decide +kernel
theorem dPL_setsThatMayLower_76 : decode cPL_setsThatMayLower 76 = .ok (.iaload, 1) := by decide +kernel
theorem dPL_setsThatMayLower_77 : decode cPL_setsThatMayLower 77 = .ok (.iadd, 1) := by decide +kernel
theorem dPL_setsThatMayLower_78 : decode cPL_setsThatMayLower 78 = .ok (.istore 7, 2) := by decide +kernel
theorem dPL_setsThatMayLower_80 : decode cPL_setsThatMayLower 80 = .ok (.aload_n 0, 1) := by decide +kernel
theorem dPL_setsThatMayLower_81 : decode cPL_setsThatMayLower 81 = .ok (.getfield 37, 3) := by decide +kernel
theorem dPL_setsThatMayLower_84 : decode cPL_setsThatMayLower 84 = .ok (.getfield 150, 3) := by decide +kernel
theorem dPL_setsThatMayLower_87 : decode cPL_setsThatMayLower 87 = .ok (.iload_n 1, 1) := by decide +kernel
theorem dPL_setsThatMayLower_88 : decode cPL_setsThatMayLower 88 = .ok (.iaload, 1) := by decide +kernel
theorem dPL_setsThatMayLower_89 : decode cPL_setsThatMayLower 89 = .ok (.aload_n 3, 1) := by decide +kernel
theorem dPL_setsThatMayLower_90 : decode cPL_setsThatMayLower 90 = .ok (.getfield 153, 3) := by decide +kernel
theorem dPL_setsThatMayLower_93 : decode cPL_setsThatMayLower 93 = .ok (.iload 6, 2) := by decide +kernel
theorem dPL_setsThatMayLower_95 : decode cPL_setsThatMayLower 95 = .ok (.iaload, 1) := by decide +kernel
theorem dPL_setsThatMayLower_96 : decode cPL_setsThatMayLower 96 = .ok (.iadd, 1) := by decide +kernel
theorem dPL_setsThatMayLower_97 : decode cPL_setsThatMayLower 97 = .ok (.istore 8, 2) := by decide +kernel
theorem dPL_setsThatMayLower_99 : decode cPL_setsThatMayLower 99 = .ok (.aload_n 0, 1) := by decide +kernel
theorem dPL_setsThatMayLower_100 : decode cPL_setsThatMayLower 100 = .ok (.iload 7, 2) := by decide +kernel
theorem dPL_setsThatMayLower_102 : decode cPL_setsThatMayLower 102 = .ok (.iload 8, 2) := by decide +kernel
theorem dPL_setsThatMayLower_104 : decode cPL_setsThatMayLower 104 = .ok (.invokevirtual 169, 3) := by decide +kernel
theorem dPL_setsThatMayLower_107 : decode cPL_setsThatMayLower 107 = .ok (.istore 9, 2) := by decide +kernel
theorem dPL_setsThatMayLower_109 : decode cPL_setsThatMayLower 109 = .ok (.aload_n 0, 1) := by decide +kernel
theorem dPL_setsThatMayLower_110 : decode cPL_setsThatMayLower 110 = .ok (.invokevirtual 179, 3) := by decide +kernel
theorem dPL_setsThatMayLower_113 : decode cPL_setsThatMayLower 113 = .ok (.ifCond .eq 18, 3) := by decide +kernel
theorem dPL_setsThatMayLower_116 : decode cPL_setsThatMayLower 116 = .ok (.iload 5, 2) := by decide +kernel
theorem dPL_setsThatMayLower_118 : decode cPL_setsThatMayLower 118 = .ok (.aload_n 0, 1) := by decide +kernel
theorem dPL_setsThatMayLower_119 : decode cPL_setsThatMayLower 119 = .ok (.iload 9, 2) := by decide +kernel
theorem dPL_setsThatMayLower_121 : decode cPL_setsThatMayLower 121 = .ok (.iload 7, 2) := by decide +kernel
theorem dPL_setsThatMayLower_123 : decode cPL_setsThatMayLower 123 = .ok (.iload 8, 2) := by decide +kernel
theorem dPL_setsThatMayLower_125 : decode cPL_setsThatMayLower 125 = .ok (.invokevirtual 156, 3) := by decide +kernel
theorem dPL_setsThatMayLower_128 : decode cPL_setsThatMayLower 128 = .ok (.iand, 1) := by decide +kernel
theorem dPL_setsThatMayLower_129 : decode cPL_setsThatMayLower 129 = .ok (.istore 5, 2) := by decide +kernel
theorem dPL_setsThatMayLower_131 : decode cPL_setsThatMayLower 131 = .ok (.iinc 6 1, 3) := by decide +kernel
theorem dPL_setsThatMayLower_134 : decode cPL_setsThatMayLower 134 = .ok (.goto (-109), 3) := by decide +kernel
theorem dPL_setsThatMayLower_137 : decode cPL_setsThatMayLower 137 = .ok (.iload 5, 2) := by decide +kernel
theorem dPL_setsThatMayLower_139 : decode cPL_setsThatMayLower 139 = .ok (.ireturn, 1) := by decide +kernel
theorem dPL_isWantedListed_0 : decode cPL_isWantedListed 0 = .ok (.iconst 0, 1) := by decide +kernel
theorem dPL_isWantedListed_1 : decode cPL_isWantedListed 1 = .ok (.istore_n 1, 1) := by decide +kernel
theorem dPL_isWantedListed_2 : decode cPL_isWantedListed 2 = .ok (.iload_n 1, 1) := by decide +kernel
theorem dPL_isWantedListed_3 : decode cPL_isWantedListed 3 = .ok (.aload_n 0, 1) := by decide +kernel
theorem dPL_isWantedListed_4 : decode cPL_isWantedListed 4 = .ok (.getfield 41, 3) := by decide +kernel
theorem dPL_isWantedListed_7 : decode cPL_isWantedListed 7 = .ok (.getfield 182, 3) := by decide +kernel
theorem dPL_isWantedListed_10 : decode cPL_isWantedListed 10 = .ok (.if_icmp .ge 28, 3) := by decide +kernel
theorem dPL_isWantedListed_13 : decode cPL_isWantedListed 13 = .ok (.aload_n 0, 1) := by decide +kernel
theorem dPL_isWantedListed_14 : decode cPL_isWantedListed 14 = .ok (.getfield 50, 3) := by decide +kernel
theorem dPL_isWantedListed_17 : decode cPL_isWantedListed 17 = .ok (.aload_n 0, 1) := by decide +kernel
theorem dPL_isWantedListed_18 : decode cPL_isWantedListed 18 = .ok (.getfield 41, 3) := by decide +kernel
theorem dPL_isWantedListed_21 : decode cPL_isWantedListed 21 = .ok (.getfield 185, 3) := by decide +kernel
theorem dPL_isWantedListed_24 : decode cPL_isWantedListed 24 = .ok (.iload_n 1, 1) := by decide +kernel
theorem dPL_isWantedListed_25 : decode cPL_isWantedListed 25 = .ok (.iaload, 1) := by decide +kernel
theorem dPL_isWantedListed_26 : decode cPL_isWantedListed 26 = .ok (.baload, 1) := by decide +kernel
theorem dPL_isWantedListed_27 : decode cPL_isWantedListed 27 = .ok (.ifCond .eq 5, 3) := by decide +kernel
theorem dPL_isWantedListed_30 : decode cPL_isWantedListed 30 = .ok (.iconst 1, 1) := by decide +kernel
theorem dPL_isWantedListed_31 : decode cPL_isWantedListed 31 = .ok (.ireturn, 1) := by decide +kernel
theorem dPL_isWantedListed_32 : decode cPL_isWantedListed 32 = .ok (.iinc 1 1, 3) := by decide +kernel
theorem dPL_isWantedListed_35 : decode cPL_isWantedListed 35 = .ok (.goto (-33), 3) := by decide +kernel
theorem dPL_isWantedListed_38 : decode cPL_isWantedListed 38 = .ok (.iconst 0, 1) := by decide +kernel
theorem dPL_isWantedListed_39 : decode cPL_isWantedListed 39 = .ok (.ireturn, 1) := by decide +kernel
theorem dPL_setsAbove_0 : decode cPL_setsAbove 0 = .ok (.iconst 0, 1) := by decide +kernel
theorem dPL_setsAbove_1 : decode cPL_setsAbove 1 = .ok (.istore 4, 2) := by decide +kernel
theorem dPL_setsAbove_3 : decode cPL_setsAbove 3 = .ok (.iconst 0, 1) := by decide +kernel
theorem dPL_setsAbove_4 : decode cPL_setsAbove 4 = .ok (.istore 5, 2) := by decide +kernel
theorem dPL_setsAbove_6 : decode cPL_setsAbove 6 = .ok (.iload 5, 2) := by decide +kernel
theorem dPL_setsAbove_8 : decode cPL_setsAbove 8 = .ok (.aload_n 0, 1) := by decide +kernel
theorem dPL_setsAbove_9 : decode cPL_setsAbove 9 = .ok (.getfield 31, 3) := by decide +kernel
theorem dPL_setsAbove_12 : decode cPL_setsAbove 12 = .ok (.if_icmp .ge 49, 3) := by decide +kernel
theorem dPL_setsAbove_15 : decode cPL_setsAbove 15 = .ok (.aload_n 0, 1) := by decide +kernel
theorem dPL_setsAbove_16 : decode cPL_setsAbove 16 = .ok (.getfield 25, 3) := by decide +kernel
theorem dPL_setsAbove_19 : decode cPL_setsAbove 19 = .ok (.iload 5, 2) := by decide +kernel
theorem dPL_setsAbove_21 : decode cPL_setsAbove 21 = .ok (.iaload, 1) := by decide +kernel
theorem dPL_setsAbove_22 : decode cPL_setsAbove 22 = .ok (.aload_n 0, 1) := by decide +kernel
theorem dPL_setsAbove_23 : decode cPL_setsAbove 23 = .ok (.getfield 41, 3) := by decide +kernel
theorem dPL_setsAbove_26 : decode cPL_setsAbove 26 = .ok (.aload_n 0, 1) := by decide +kernel
theorem dPL_setsAbove_27 : decode cPL_setsAbove 27 = .ok (.getfield 22, 3) := by decide +kernel
theorem dPL_setsAbove_30 : decode cPL_setsAbove 30 = .ok (.iload 5, 2) := by decide +kernel
theorem dPL_setsAbove_32 : decode cPL_setsAbove 32 = .ok (.iaload, 1) := by decide +kernel
theorem dPL_setsAbove_33 : decode cPL_setsAbove 33 = .ok (.iload_n 2, 1) := by decide +kernel
theorem dPL_setsAbove_34 : decode cPL_setsAbove 34 = .ok (.iload_n 3, 1) := by decide +kernel
theorem dPL_setsAbove_35 : decode cPL_setsAbove 35 = .ok (.invokevirtual 188, 3) := by decide +kernel
theorem dPL_setsAbove_38 : decode cPL_setsAbove 38 = .ok (.iadd, 1) := by decide +kernel
theorem dPL_setsAbove_39 : decode cPL_setsAbove 39 = .ok (.iload_n 1, 1) := by decide +kernel
theorem dPL_setsAbove_40 : decode cPL_setsAbove 40 = .ok (.if_icmp .le 15, 3) := by decide +kernel
theorem dPL_setsAbove_43 : decode cPL_setsAbove 43 = .ok (.iload 4, 2) := by decide +kernel
theorem dPL_setsAbove_45 : decode cPL_setsAbove 45 = .ok (.aload_n 0, 1) := by decide +kernel
theorem dPL_setsAbove_46 : decode cPL_setsAbove 46 = .ok (.getfield 28, 3) := by decide +kernel
theorem dPL_setsAbove_49 : decode cPL_setsAbove 49 = .ok (.iload 5, 2) := by decide +kernel
theorem dPL_setsAbove_51 : decode cPL_setsAbove 51 = .ok (.iaload, 1) := by decide +kernel
theorem dPL_setsAbove_52 : decode cPL_setsAbove 52 = .ok (.ior, 1) := by decide +kernel
theorem dPL_setsAbove_53 : decode cPL_setsAbove 53 = .ok (.istore 4, 2) := by decide +kernel
theorem dPL_setsAbove_55 : decode cPL_setsAbove 55 = .ok (.iinc 5 1, 3) := by decide +kernel
theorem dPL_setsAbove_58 : decode cPL_setsAbove 58 = .ok (.goto (-52), 3) := by decide +kernel
theorem dPL_setsAbove_61 : decode cPL_setsAbove 61 = .ok (.iload 4, 2) := by decide +kernel
theorem dPL_setsAbove_63 : decode cPL_setsAbove 63 = .ok (.ireturn, 1) := by decide +kernel
theorem dPL_bestOf_0 : decode cPL_bestOf 0 = .ok (.iconst (-1), 1) := by decide +kernel
theorem dPL_bestOf_1 : decode cPL_bestOf 1 = .ok (.istore_n 2, 1) := by decide +kernel
theorem dPL_bestOf_2 : decode cPL_bestOf 2 = .ok (.iconst 0, 1) := by decide +kernel
theorem dPL_bestOf_3 : decode cPL_bestOf 3 = .ok (.istore_n 3, 1) := by decide +kernel
theorem dPL_bestOf_4 : decode cPL_bestOf 4 = .ok (.iload_n 3, 1) := by decide +kernel
theorem dPL_bestOf_5 : decode cPL_bestOf 5 = .ok (.iconst 1, 1) := by decide +kernel
theorem dPL_bestOf_6 : decode cPL_bestOf 6 = .ok (.aload_n 0, 1) := by decide +kernel
theorem dPL_bestOf_7 : decode cPL_bestOf 7 = .ok (.getfield 18, 3) := by decide +kernel
theorem dPL_bestOf_10 : decode cPL_bestOf 10 = .ok (.ishl, 1) := by decide +kernel
theorem dPL_bestOf_11 : decode cPL_bestOf 11 = .ok (.if_icmp .ge 28, 3) := by decide +kernel
theorem dPL_bestOf_14 : decode cPL_bestOf 14 = .ok (.iload_n 1, 1) := by decide +kernel
theorem dPL_bestOf_15 : decode cPL_bestOf 15 = .ok (.iload_n 3, 1) := by decide +kernel
theorem dPL_bestOf_16 : decode cPL_bestOf 16 = .ok (.invokestatic 191, 3) := by decide +kernel
theorem dPL_bestOf_19 : decode cPL_bestOf 19 = .ok (.ifCond .eq 14, 3) := by decide +kernel
theorem dPL_bestOf_22 : decode cPL_bestOf 22 = .ok (.aload_n 0, 1) := by decide +kernel
theorem dPL_bestOf_23 : decode cPL_bestOf 23 = .ok (.iload_n 3, 1) := by decide +kernel
theorem dPL_bestOf_24 : decode cPL_bestOf 24 = .ok (.iload_n 2, 1) := by decide +kernel
theorem dPL_bestOf_25 : decode cPL_bestOf 25 = .ok (.invokevirtual 195, 3) := by decide +kernel
theorem dPL_bestOf_28 : decode cPL_bestOf 28 = .ok (.ifCond .eq 5, 3) := by decide +kernel
theorem dPL_bestOf_31 : decode cPL_bestOf 31 = .ok (.iload_n 3, 1) := by decide +kernel
theorem dPL_bestOf_32 : decode cPL_bestOf 32 = .ok (.istore_n 2, 1) := by decide +kernel
theorem dPL_bestOf_33 : decode cPL_bestOf 33 = .ok (.iinc 3 1, 3) := by decide +kernel
theorem dPL_bestOf_36 : decode cPL_bestOf 36 = .ok (.goto (-32), 3) := by decide +kernel
theorem dPL_bestOf_39 : decode cPL_bestOf 39 = .ok (.iload_n 2, 1) := by decide +kernel
theorem dPL_bestOf_40 : decode cPL_bestOf 40 = .ok (.ireturn, 1) := by decide +kernel
theorem dPL_setsBetterThan_0 : decode cPL_setsBetterThan 0 = .ok (.iconst 0, 1) := by decide +kernel
theorem dPL_setsBetterThan_1 : decode cPL_setsBetterThan 1 = .ok (.istore_n 3, 1) := by decide +kernel
theorem dPL_setsBetterThan_2 : decode cPL_setsBetterThan 2 = .ok (.iconst 0, 1) := by decide +kernel
theorem dPL_setsBetterThan_3 : decode cPL_setsBetterThan 3 = .ok (.istore 4, 2) := by decide +kernel
theorem dPL_setsBetterThan_5 : decode cPL_setsBetterThan 5 = .ok (.iload 4, 2) := by decide +kernel
theorem dPL_setsBetterThan_7 : decode cPL_setsBetterThan 7 = .ok (.iconst 1, 1) := by decide +kernel
theorem dPL_setsBetterThan_8 : decode cPL_setsBetterThan 8 = .ok (.aload_n 0, 1) := by decide +kernel
theorem dPL_setsBetterThan_9 : decode cPL_setsBetterThan 9 = .ok (.getfield 18, 3) := by decide +kernel
theorem dPL_setsBetterThan_12 : decode cPL_setsBetterThan 12 = .ok (.ishl, 1) := by decide +kernel
theorem dPL_setsBetterThan_13 : decode cPL_setsBetterThan 13 = .ok (.if_icmp .ge 35, 3) := by decide +kernel
theorem dPL_setsBetterThan_16 : decode cPL_setsBetterThan 16 = .ok (.iload_n 2, 1) := by decide +kernel
theorem dPL_setsBetterThan_17 : decode cPL_setsBetterThan 17 = .ok (.iload 4, 2) := by decide +kernel
theorem dPL_setsBetterThan_19 : decode cPL_setsBetterThan 19 = .ok (.invokestatic 191, 3) := by decide +kernel
theorem dPL_setsBetterThan_22 : decode cPL_setsBetterThan 22 = .ok (.ifCond .eq 20, 3) := by decide +kernel
theorem dPL_setsBetterThan_25 : decode cPL_setsBetterThan 25 = .ok (.aload_n 0, 1) := by decide +kernel
theorem dPL_setsBetterThan_26 : decode cPL_setsBetterThan 26 = .ok (.iload 4, 2) := by decide +kernel
theorem dPL_setsBetterThan_28 : decode cPL_setsBetterThan 28 = .ok (.iload_n 1, 1) := by decide +kernel
theorem dPL_setsBetterThan_29 : decode cPL_setsBetterThan 29 = .ok (.invokevirtual 195, 3) := by decide +kernel
theorem dPL_setsBetterThan_32 : decode cPL_setsBetterThan 32 = .ok (.ifCond .eq 10, 3) := by decide +kernel
theorem dPL_setsBetterThan_35 : decode cPL_setsBetterThan 35 = .ok (.iload_n 3, 1) := by decide +kernel
theorem dPL_setsBetterThan_36 : decode cPL_setsBetterThan 36 = .ok (.iconst 1, 1) := by decide +kernel
theorem dPL_setsBetterThan_37 : decode cPL_setsBetterThan 37 = .ok (.iload 4, 2) := by decide +kernel
theorem dPL_setsBetterThan_39 : decode cPL_setsBetterThan 39 = .ok (.ishl, 1) := by decide +kernel
theorem dPL_setsBetterThan_40 : decode cPL_setsBetterThan 40 = .ok (.ior, 1) := by decide +kernel
theorem dPL_setsBetterThan_41 : decode cPL_setsBetterThan 41 = .ok (.istore_n 3, 1) := by decide +kernel
theorem dPL_setsBetterThan_42 : decode cPL_setsBetterThan 42 = .ok (.iinc 4 1, 3) := by decide +kernel
theorem dPL_setsBetterThan_45 : decode cPL_setsBetterThan 45 = .ok (.goto (-40), 3) := by decide +kernel
theorem dPL_setsBetterThan_48 : decode cPL_setsBetterThan 48 = .ok (.iload_n 3, 1) := by decide +kernel
theorem dPL_setsBetterThan_49 : decode cPL_setsBetterThan 49 = .ok (.ireturn, 1) := by decide +kernel
theorem dPL_isBetter_0 : decode cPL_isBetter 0 = .ok (.iload_n 2, 1) := by decide +kernel
theorem dPL_isBetter_1 : decode cPL_isBetter 1 = .ok (.iconst (-1), 1) := by decide +kernel
theorem dPL_isBetter_2 : decode cPL_isBetter 2 = .ok (.if_icmp .ne 5, 3) := by decide +kernel
theorem dPL_isBetter_5 : decode cPL_isBetter 5 = .ok (.iconst 1, 1) := by decide +kernel
theorem dPL_isBetter_6 : decode cPL_isBetter 6 = .ok (.ireturn, 1) := by decide +kernel
theorem dPL_isBetter_7 : decode cPL_isBetter 7 = .ok (.iload_n 2, 1) := by decide +kernel
theorem dPL_isBetter_8 : decode cPL_isBetter 8 = .ok (.invokestatic 198, 3) := by decide +kernel
theorem dPL_isBetter_11 : decode cPL_isBetter 11 = .ok (.iload_n 1, 1) := by decide +kernel
theorem dPL_isBetter_12 : decode cPL_isBetter 12 = .ok (.invokestatic 198, 3) := by decide +kernel
theorem dPL_isBetter_15 : decode cPL_isBetter 15 = .ok (.isub, 1) := by decide +kernel
theorem dPL_isBetter_16 : decode cPL_isBetter 16 = .ok (.istore_n 3, 1) := by decide +kernel
theorem dPL_isBetter_17 : decode cPL_isBetter 17 = .ok (.iload_n 3, 1) := by decide +kernel
theorem dPL_isBetter_18 : decode cPL_isBetter 18 = .ok (.ifCond .eq 13, 3) := by decide +kernel
theorem dPL_isBetter_21 : decode cPL_isBetter 21 = .ok (.iload_n 3, 1) := by decide +kernel
theorem dPL_isBetter_22 : decode cPL_isBetter 22 = .ok (.ifCond .le 7, 3) := by decide +kernel
theorem dPL_isBetter_25 : decode cPL_isBetter 25 = .ok (.iconst 1, 1) := by decide +kernel
theorem dPL_isBetter_26 : decode cPL_isBetter 26 = .ok (.goto 4, 3) := by decide +kernel
theorem dPL_isBetter_29 : decode cPL_isBetter 29 = .ok (.iconst 0, 1) := by decide +kernel
theorem dPL_isBetter_30 : decode cPL_isBetter 30 = .ok (.ireturn, 1) := by decide +kernel
theorem dPL_isBetter_31 : decode cPL_isBetter 31 = .ok (.aload_n 0, 1) := by decide +kernel
theorem dPL_isBetter_32 : decode cPL_isBetter 32 = .ok (.iload_n 2, 1) := by decide +kernel
theorem dPL_isBetter_33 : decode cPL_isBetter 33 = .ok (.invokevirtual 203, 3) := by decide +kernel
theorem dPL_isBetter_36 : decode cPL_isBetter 36 = .ok (.aload_n 0, 1) := by decide +kernel
theorem dPL_isBetter_37 : decode cPL_isBetter 37 = .ok (.iload_n 1, 1) := by decide +kernel
theorem dPL_isBetter_38 : decode cPL_isBetter 38 = .ok (.invokevirtual 203, 3) := by decide +kernel
theorem dPL_isBetter_41 : decode cPL_isBetter 41 = .ok (.isub, 1) := by decide +kernel
theorem dPL_isBetter_42 : decode cPL_isBetter 42 = .ok (.istore 4, 2) := by decide +kernel
theorem dPL_isBetter_44 : decode cPL_isBetter 44 = .ok (.iload 4, 2) := by decide +kernel
theorem dPL_isBetter_46 : decode cPL_isBetter 46 = .ok (.ifCond .gt 13, 3) := by decide +kernel
theorem dPL_isBetter_49 : decode cPL_isBetter 49 = .ok (.iload 4, 2) := by decide +kernel
theorem dPL_isBetter_51 : decode cPL_isBetter 51 = .ok (.ifCond .ne 12, 3) := by decide +kernel
theorem dPL_isBetter_54 : decode cPL_isBetter 54 = .ok (.iload_n 1, 1) := by decide +kernel
theorem dPL_isBetter_55 : decode cPL_isBetter 55 = .ok (.iload_n 2, 1) := by decide +kernel
theorem dPL_isBetter_56 : decode cPL_isBetter 56 = .ok (.if_icmp .ge 7, 3) := by decide +kernel
theorem dPL_isBetter_59 : decode cPL_isBetter 59 = .ok (.iconst 1, 1) := by decide +kernel
theorem dPL_isBetter_60 : decode cPL_isBetter 60 = .ok (.goto 4, 3) := by decide +kernel
theorem dPL_isBetter_63 : decode cPL_isBetter 63 = .ok (.iconst 0, 1) := by decide +kernel
theorem dPL_isBetter_64 : decode cPL_isBetter 64 = .ok (.ireturn, 1) := by decide +kernel
theorem dPL_lengthOf_0 : decode cPL_lengthOf 0 = .ok (.iconst 0, 1) := by decide +kernel
theorem dPL_lengthOf_1 : decode cPL_lengthOf 1 = .ok (.istore_n 2, 1) := by decide +kernel
theorem dPL_lengthOf_2 : decode cPL_lengthOf 2 = .ok (.iconst 0, 1) := by decide +kernel
theorem dPL_lengthOf_3 : decode cPL_lengthOf 3 = .ok (.istore_n 3, 1) := by decide +kernel
theorem dPL_lengthOf_4 : decode cPL_lengthOf 4 = .ok (.iload_n 3, 1) := by decide +kernel
theorem dPL_lengthOf_5 : decode cPL_lengthOf 5 = .ok (.aload_n 0, 1) := by decide +kernel
theorem dPL_lengthOf_6 : decode cPL_lengthOf 6 = .ok (.getfield 18, 3) := by decide +kernel
theorem dPL_lengthOf_9 : decode cPL_lengthOf 9 = .ok (.if_icmp .ge 26, 3) := by decide +kernel
theorem dPL_lengthOf_12 : decode cPL_lengthOf 12 = .ok (.iload_n 1, 1) := by decide +kernel
theorem dPL_lengthOf_13 : decode cPL_lengthOf 13 = .ok (.iload_n 3, 1) := by decide +kernel
theorem dPL_lengthOf_14 : decode cPL_lengthOf 14 = .ok (.invokestatic 191, 3) := by decide +kernel
theorem dPL_lengthOf_17 : decode cPL_lengthOf 17 = .ok (.ifCond .eq 12, 3) := by decide +kernel
theorem dPL_lengthOf_20 : decode cPL_lengthOf 20 = .ok (.iload_n 2, 1) := by decide +kernel
theorem dPL_lengthOf_21 : decode cPL_lengthOf 21 = .ok (.aload_n 0, 1) := by decide +kernel
theorem dPL_lengthOf_22 : decode cPL_lengthOf 22 = .ok (.getfield 15, 3) := by decide +kernel
theorem dPL_lengthOf_25 : decode cPL_lengthOf 25 = .ok (.iload_n 3, 1) := by decide +kernel
theorem dPL_lengthOf_26 : decode cPL_lengthOf 26 = .ok (.iaload, 1) := by decide +kernel
theorem dPL_lengthOf_27 : decode cPL_lengthOf 27 = .ok (.iadd, 1) := by decide +kernel
theorem dPL_lengthOf_28 : decode cPL_lengthOf 28 = .ok (.istore_n 2, 1) := by decide +kernel
theorem dPL_lengthOf_29 : decode cPL_lengthOf 29 = .ok (.iinc 3 1, 3) := by decide +kernel
theorem dPL_lengthOf_32 : decode cPL_lengthOf 32 = .ok (.goto (-28), 3) := by decide +kernel
theorem dPL_lengthOf_35 : decode cPL_lengthOf 35 = .ok (.iload_n 2, 1) := by decide +kernel
theorem dPL_lengthOf_36 : decode cPL_lengthOf 36 = .ok (.ireturn, 1) := by decide +kernel
theorem dSH_init_0 : decode cSH_init 0 = .ok (.aload_n 0, 1) := by decide +kernel
theorem dSH_init_1 : decode cSH_init 1 = .ok (.invokespecial 1, 3) := by decide +kernel
theorem dSH_init_4 : decode cSH_init 4 = .ok (.iload_n 1, 1) := by decide +kernel
theorem dSH_init_5 : decode cSH_init 5 = .ok (.invokestatic 7, 3) := by decide +kernel
theorem dSH_init_8 : decode cSH_init 8 = .ok (.astore_n 3, 1) := by decide +kernel
theorem dSH_init_9 : decode cSH_init 9 = .ok (.aload_n 0, 1) := by decide +kernel
theorem dSH_init_10 : decode cSH_init 10 = .ok (.aload_n 3, 1) := by decide +kernel
theorem dSH_init_11 : decode cSH_init 11 = .ok (.iload_n 1, 1) := by decide +kernel
theorem dSH_init_12 : decode cSH_init 12 = .ok (.iload_n 1, 1) := by decide +kernel
theorem dSH_init_13 : decode cSH_init 13 = .ok (.imul, 1) := by decide +kernel
theorem dSH_init_14 : decode cSH_init 14 = .ok (.iconst 1, 1) := by decide +kernel
theorem dSH_init_15 : decode cSH_init 15 = .ok (.iadd, 1) := by decide +kernel
theorem dSH_init_16 : decode cSH_init 16 = .ok (.iaload, 1) := by decide +kernel
theorem dSH_init_17 : decode cSH_init 17 = .ok (.putfield 13, 3) := by decide +kernel
theorem dSH_init_20 : decode cSH_init 20 = .ok (.aload_n 0, 1) := by decide +kernel
theorem dSH_init_21 : decode cSH_init 21 = .ok (.aload_n 0, 1) := by decide +kernel
theorem dSH_init_22 : decode cSH_init 22 = .ok (.getfield 13, 3) := by decide +kernel
theorem dSH_init_25 : decode cSH_init 25 = .ok (.newarray .int, 2) := by decide +kernel
theorem dSH_init_27 : decode cSH_init 27 = .ok (.putfield 17, 3) := by decide +kernel
theorem dSH_init_30 : decode cSH_init 30 = .ok (.aload_n 0, 1) := by decide +kernel
theorem dSH_init_31 : decode cSH_init 31 = .ok (.aload_n 0, 1) := by decide +kernel
theorem dSH_init_32 : decode cSH_init 32 = .ok (.getfield 13, 3) := by decide +kernel
theorem dSH_init_35 : decode cSH_init 35 = .ok (.newarray .int, 2) := by decide +kernel
theorem dSH_init_37 : decode cSH_init 37 = .ok (.putfield 21, 3) := by decide +kernel
theorem dSH_init_40 : decode cSH_init 40 = .ok (.aload_n 0, 1) := by decide +kernel
theorem dSH_init_41 : decode cSH_init 41 = .ok (.aload_n 0, 1) := by decide +kernel
theorem dSH_init_42 : decode cSH_init 42 = .ok (.getfield 13, 3) := by decide +kernel
theorem dSH_init_45 : decode cSH_init 45 = .ok (.newarray .int, 2) := by decide +kernel
theorem dSH_init_47 : decode cSH_init 47 = .ok (.putfield 24, 3) := by decide +kernel
theorem dSH_init_50 : decode cSH_init 50 = .ok (.aload_n 0, 1) := by decide +kernel
theorem dSH_init_51 : decode cSH_init 51 = .ok (.aload_n 0, 1) := by decide +kernel
theorem dSH_init_52 : decode cSH_init 52 = .ok (.getfield 13, 3) := by decide +kernel
theorem dSH_init_55 : decode cSH_init 55 = .ok (.newarray .int, 2) := by decide +kernel
theorem dSH_init_57 : decode cSH_init 57 = .ok (.putfield 27, 3) := by decide +kernel
theorem dSH_init_60 : decode cSH_init 60 = .ok (.aload_n 0, 1) := by decide +kernel
theorem dSH_init_61 : decode cSH_init 61 = .ok (.iconst 2, 1) := by decide +kernel
theorem dSH_init_62 : decode cSH_init 62 = .ok (.iload_n 1, 1) := by decide +kernel
theorem dSH_init_63 : decode cSH_init 63 = .ok (.imul, 1) := by decide +kernel
theorem dSH_init_64 : decode cSH_init 64 = .ok (.iconst 1, 1) := by decide +kernel
theorem dSH_init_65 : decode cSH_init 65 = .ok (.iadd, 1) := by decide +kernel
theorem dSH_init_66 : decode cSH_init 66 = .ok (.putfield 30, 3) := by decide +kernel
theorem dSH_init_69 : decode cSH_init 69 = .ok (.aload_n 0, 1) := by decide +kernel
theorem dSH_init_70 : decode cSH_init 70 = .ok (.aload_n 0, 1) := by decide +kernel
theorem dSH_init_71 : decode cSH_init 71 = .ok (.getfield 30, 3) := by decide +kernel
theorem dSH_init_74 : decode cSH_init 74 = .ok (.aload_n 0, 1) := by decide +kernel
theorem dSH_init_75 : decode cSH_init 75 = .ok (.getfield 30, 3) := by decide +kernel
theorem dSH_init_78 : decode cSH_init 78 = .ok (.imul, 1) := by decide +kernel
theorem dSH_init_79 : decode cSH_init 79 = .ok (.newarray .int, 2) := by decide +kernel
theorem dSH_init_81 : decode cSH_init 81 = .ok (.putfield 33, 3) := by decide +kernel
theorem dSH_init_84 : decode cSH_init 84 = .ok (.iload_n 1, 1) := by decide +kernel
theorem dSH_init_85 : decode cSH_init 85 = .ok (.ineg, 1) := by decide +kernel
theorem dSH_init_86 : decode cSH_init 86 = .ok (.istore 4, 2) := by decide +kernel
theorem dSH_init_88 : decode cSH_init 88 = .ok (.iload 4, 2) := by decide +kernel
theorem dSH_init_90 : decode cSH_init 90 = .ok (.iload_n 1, 1) := by decide +kernel
theorem dSH_init_91 : decode cSH_init 91 = .ok (.if_icmp .gt 146, 3) := by decide +kernel
theorem dSH_init_94 : decode cSH_init 94 = .ok (.iload_n 1, 1) := by decide +kernel
theorem dSH_init_95 : decode cSH_init 95 = .ok (.ineg, 1) := by decide +kernel
theorem dSH_init_96 : decode cSH_init 96 = .ok (.istore 5, 2) := by decide +kernel
theorem dSH_init_98 : decode cSH_init 98 = .ok (.iload 5, 2) := by decide +kernel
theorem dSH_init_100 : decode cSH_init 100 = .ok (.iload_n 1, 1) := by decide +kernel
theorem dSH_init_101 : decode cSH_init 101 = .ok (.if_icmp .gt 130, 3) := by decide +kernel
theorem dSH_init_104 : decode cSH_init 104 = .ok (.iload 5, 2) := by decide +kernel
theorem dSH_init_106 : decode cSH_init 106 = .ok (.iload 5, 2) := by decide +kernel
theorem dSH_init_108 : decode cSH_init 108 = .ok (.imul, 1) := by decide +kernel
theorem dSH_init_109 : decode cSH_init 109 = .ok (.iload 4, 2) := by decide +kernel
theorem dSH_init_111 : decode cSH_init 111 = .ok (.iload 4, 2) := by decide +kernel
theorem dSH_init_113 : decode cSH_init 113 = .ok (.imul, 1) := by decide +kernel
theorem dSH_init_114 : decode cSH_init 114 = .ok (.iadd, 1) := by decide +kernel
theorem dSH_init_115 : decode cSH_init 115 = .ok (.istore 6, 2) := by decide +kernel
theorem dSH_init_117 : decode cSH_init 117 = .ok (.iload 6, 2) := by decide +kernel
theorem dSH_init_119 : decode cSH_init 119 = .ok (.iload_n 1, 1) := by decide +kernel
theorem dSH_init_120 : decode cSH_init 120 = .ok (.iload_n 1, 1) := by decide +kernel
theorem dSH_init_121 : decode cSH_init 121 = .ok (.imul, 1) := by decide +kernel
theorem dSH_init_122 : decode cSH_init 122 = .ok (.if_icmp .gt 16, 3) := by decide +kernel
theorem dSH_init_125 : decode cSH_init 125 = .ok (.getstatic 36, 3) := by decide +kernel
theorem dSH_init_128 : decode cSH_init 128 = .ok (.iload_n 1, 1) := by decide +kernel
theorem dSH_init_129 : decode cSH_init 129 = .ok (.iload_n 1, 1) := by decide +kernel
theorem dSH_init_130 : decode cSH_init 130 = .ok (.imul, 1) := by decide +kernel
theorem dSH_init_131 : decode cSH_init 131 = .ok (.iload 6, 2) := by decide +kernel
theorem dSH_init_133 : decode cSH_init 133 = .ok (.isub, 1) := by decide +kernel
theorem dSH_init_134 : decode cSH_init 134 = .ok (.iaload, 1) := by decide +kernel
theorem dSH_init_135 : decode cSH_init 135 = .ok (.goto 5, 3) := by decide +kernel
theorem dSH_init_138 : decode cSH_init 138 = .ok (.ldc 41, 2) := by decide +kernel
theorem dSH_init_140 : decode cSH_init 140 = .ok (.istore 7, 2) := by decide +kernel
theorem dSH_init_142 : decode cSH_init 142 = .ok (.aload_n 0, 1) := by decide +kernel
theorem dSH_init_143 : decode cSH_init 143 = .ok (.getfield 33, 3) := by decide +kernel
theorem dSH_init_146 : decode cSH_init 146 = .ok (.iload 4, 2) := by decide +kernel
theorem dSH_init_148 : decode cSH_init 148 = .ok (.iload_n 1, 1) := by decide +kernel
theorem dSH_init_149 : decode cSH_init 149 = .ok (.iadd, 1) := by decide +kernel
theorem dSH_init_150 : decode cSH_init 150 = .ok (.aload_n 0, 1) := by decide +kernel
theorem dSH_init_151 : decode cSH_init 151 = .ok (.getfield 30, 3) := by decide +kernel
theorem dSH_init_154 : decode cSH_init 154 = .ok (.imul, 1) := by decide +kernel
theorem dSH_init_155 : decode cSH_init 155 = .ok (.iload 5, 2) := by decide +kernel
theorem dSH_init_157 : decode cSH_init 157 = .ok (.iadd, 1) := by decide +kernel
theorem dSH_init_158 : decode cSH_init 158 = .ok (.iload_n 1, 1) := by decide +kernel
theorem dSH_init_159 : decode cSH_init 159 = .ok (.iadd, 1) := by decide +kernel
theorem dSH_init_160 : decode cSH_init 160 = .ok (.iload 7, 2) := by decide +kernel
theorem dSH_init_162 : decode cSH_init 162 = .ok (.iastore, 1) := by decide +kernel
theorem dSH_init_163 : decode cSH_init 163 = .ok (.iload 7, 2) := by decide +kernel
theorem dSH_init_165 : decode cSH_init 165 = .ok (.ldc 41, 2) := by decide +kernel
theorem dSH_init_167 : decode cSH_init 167 = .ok (.if_icmp .eq 58, 3) := by decide +kernel
theorem dSH_init_170 : decode cSH_init 170 = .ok (.aload_n 3, 1) := by decide +kernel
theorem dSH_init_171 : decode cSH_init 171 = .ok (.iload 6, 2) := by decide +kernel
theorem dSH_init_173 : decode cSH_init 173 = .ok (.iaload, 1) := by decide +kernel
theorem dSH_init_174 : decode cSH_init 174 = .ok (.istore 8, 2) := by decide +kernel
theorem dSH_init_176 : decode cSH_init 176 = .ok (.aload_n 3, 1) := by decide +kernel
theorem dSH_init_177 : decode cSH_init 177 = .ok (.iload 6, 2) := by decide +kernel
theorem dSH_init_179 : decode cSH_init 179 = .ok (.dup2, 1) := by decide +kernel
theorem dSH_init_180 : decode cSH_init 180 = .ok (.iaload, 1) := by decide +kernel
theorem dSH_init_181 : decode cSH_init 181 = .ok (.iconst 1, 1) := by decide +kernel
theorem dSH_init_182 : decode cSH_init 182 = .ok (.iadd, 1) := by decide +kernel
theorem dSH_init_183 : decode cSH_init 183 = .ok (.iastore, 1) := by decide +kernel
theorem dSH_init_184 : decode cSH_init 184 = .ok (.aload_n 0, 1) := by decide +kernel
theorem dSH_init_185 : decode cSH_init 185 = .ok (.getfield 17, 3) := by decide +kernel
theorem dSH_init_188 : decode cSH_init 188 = .ok (.iload 8, 2) := by decide +kernel
theorem dSH_init_190 : decode cSH_init 190 = .ok (.iload 5, 2) := by decide +kernel
theorem dSH_init_192 : decode cSH_init 192 = .ok (.iastore, 1) := by decide +kernel
theorem dSH_init_193 : decode cSH_init 193 = .ok (.aload_n 0, 1) := by decide +kernel
theorem dSH_init_194 : decode cSH_init 194 = .ok (.getfield 21, 3) := by decide +kernel
theorem dSH_init_197 : decode cSH_init 197 = .ok (.iload 8, 2) := by decide +kernel
theorem dSH_init_199 : decode cSH_init 199 = .ok (.iload 4, 2) := by decide +kernel
theorem dSH_init_201 : decode cSH_init 201 = .ok (.iastore, 1) := by decide +kernel
theorem dSH_init_202 : decode cSH_init 202 = .ok (.aload_n 0, 1) := by decide +kernel
theorem dSH_init_203 : decode cSH_init 203 = .ok (.getfield 24, 3) := by decide +kernel
theorem dSH_init_206 : decode cSH_init 206 = .ok (.iload 8, 2) := by decide +kernel
theorem dSH_init_208 : decode cSH_init 208 = .ok (.iload 4, 2) := by decide +kernel
theorem dSH_init_210 : decode cSH_init 210 = .ok (.iload_n 2, 1) := by decide +kernel
theorem dSH_init_211 : decode cSH_init 211 = .ok (.imul, 1) := by decide +kernel
theorem dSH_init_212 : decode cSH_init 212 = .ok (.iload 5, 2) := by decide +kernel
theorem dSH_init_214 : decode cSH_init 214 = .ok (.iadd, 1) := by decide +kernel
theorem dSH_init_215 : decode cSH_init 215 = .ok (.iastore, 1) := by decide +kernel
theorem dSH_init_216 : decode cSH_init 216 = .ok (.aload_n 0, 1) := by decide +kernel
theorem dSH_init_217 : decode cSH_init 217 = .ok (.getfield 27, 3) := by decide +kernel
theorem dSH_init_220 : decode cSH_init 220 = .ok (.iload 8, 2) := by decide +kernel
theorem dSH_init_222 : decode cSH_init 222 = .ok (.iload 7, 2) := by decide +kernel
theorem dSH_init_224 : decode cSH_init 224 = .ok (.iastore, 1) := by decide +kernel
theorem dSH_init_225 : decode cSH_init 225 = .ok (.iinc 5 1, 3) := by decide +kernel
theorem dSH_init_228 : decode cSH_init 228 = .ok (.goto (-130), 3) := by decide +kernel
theorem dSH_init_231 : decode cSH_init 231 = .ok (.iinc 4 1, 3) := by decide +kernel
theorem dSH_init_234 : decode cSH_init 234 = .ok (.goto (-146), 3) := by decide +kernel
theorem dSH_init_237 : decode cSH_init 237 = .ok (.return_, 1) := by decide +kernel
theorem dSH_firstSteps_0 : decode cSH_firstSteps 0 = .ok (.iload_n 0, 1) := by decide +kernel
theorem dSH_firstSteps_1 : decode cSH_firstSteps 1 = .ok (.iload_n 0, 1) := by decide +kernel
theorem dSH_firstSteps_2 : decode cSH_firstSteps 2 = .ok (.imul, 1) := by decide +kernel
theorem dSH_firstSteps_3 : decode cSH_firstSteps 3 = .ok (.iconst 2, 1) := by decide +kernel
theorem dSH_firstSteps_4 : decode cSH_firstSteps 4 = .ok (.iadd, 1) := by decide +kernel
theorem dSH_firstSteps_5 : decode cSH_firstSteps 5 = .ok (.newarray .int, 2) := by decide +kernel
theorem dSH_firstSteps_7 : decode cSH_firstSteps 7 = .ok (.astore_n 1, 1) := by decide +kernel
theorem dSH_firstSteps_8 : decode cSH_firstSteps 8 = .ok (.iload_n 0, 1) := by decide +kernel
theorem dSH_firstSteps_9 : decode cSH_firstSteps 9 = .ok (.ineg, 1) := by decide +kernel
theorem dSH_firstSteps_10 : decode cSH_firstSteps 10 = .ok (.istore_n 2, 1) := by decide +kernel
theorem dSH_firstSteps_11 : decode cSH_firstSteps 11 = .ok (.iload_n 2, 1) := by decide +kernel
theorem dSH_firstSteps_12 : decode cSH_firstSteps 12 = .ok (.iload_n 0, 1) := by decide +kernel
theorem dSH_firstSteps_13 : decode cSH_firstSteps 13 = .ok (.if_icmp .gt 51, 3) := by decide +kernel
theorem dSH_firstSteps_16 : decode cSH_firstSteps 16 = .ok (.iload_n 0, 1) := by decide +kernel
theorem dSH_firstSteps_17 : decode cSH_firstSteps 17 = .ok (.ineg, 1) := by decide +kernel
theorem dSH_firstSteps_18 : decode cSH_firstSteps 18 = .ok (.istore_n 3, 1) := by decide +kernel
theorem dSH_firstSteps_19 : decode cSH_firstSteps 19 = .ok (.iload_n 3, 1) := by decide +kernel
theorem dSH_firstSteps_20 : decode cSH_firstSteps 20 = .ok (.iload_n 0, 1) := by decide +kernel
theorem dSH_firstSteps_21 : decode cSH_firstSteps 21 = .ok (.if_icmp .gt 37, 3) := by decide +kernel
theorem dSH_firstSteps_24 : decode cSH_firstSteps 24 = .ok (.iload_n 3, 1) := by decide +kernel
theorem dSH_firstSteps_25 : decode cSH_firstSteps 25 = .ok (.iload_n 3, 1) := by decide +kernel
theorem dSH_firstSteps_26 : decode cSH_firstSteps 26 = .ok (.imul, 1) := by decide +kernel
theorem dSH_firstSteps_27 : decode cSH_firstSteps 27 = .ok (.iload_n 2, 1) := by decide +kernel
theorem dSH_firstSteps_28 : decode cSH_firstSteps 28 = .ok (.iload_n 2, 1) := by decide +kernel
theorem dSH_firstSteps_29 : decode cSH_firstSteps 29 = .ok (.imul, 1) := by decide +kernel
theorem dSH_firstSteps_30 : decode cSH_firstSteps 30 = .ok (.iadd, 1) := by decide +kernel
theorem dSH_firstSteps_31 : decode cSH_firstSteps 31 = .ok (.iload_n 0, 1) := by decide +kernel
theorem dSH_firstSteps_32 : decode cSH_firstSteps 32 = .ok (.iload_n 0, 1) := by decide +kernel
theorem dSH_firstSteps_33 : decode cSH_firstSteps 33 = .ok (.imul, 1) := by decide +kernel
theorem dSH_firstSteps_34 : decode cSH_firstSteps 34 = .ok (.if_icmp .gt 18, 3) := by decide +kernel
theorem dSH_firstSteps_37 : decode cSH_firstSteps 37 = .ok (.aload_n 1, 1) := by decide +kernel
theorem dSH_firstSteps_38 : decode cSH_firstSteps 38 = .ok (.iload_n 3, 1) := by decide +kernel
theorem dSH_firstSteps_39 : decode cSH_firstSteps 39 = .ok (.iload_n 3, 1) := by decide +kernel
theorem dSH_firstSteps_40 : decode cSH_firstSteps 40 = .ok (.imul, 1) := by decide +kernel
theorem dSH_firstSteps_41 : decode cSH_firstSteps 41 = .ok (.iload_n 2, 1) := by decide +kernel
theorem dSH_firstSteps_42 : decode cSH_firstSteps 42 = .ok (.iload_n 2, 1) := by decide +kernel
theorem dSH_firstSteps_43 : decode cSH_firstSteps 43 = .ok (.imul, 1) := by decide +kernel
theorem dSH_firstSteps_44 : decode cSH_firstSteps 44 = .ok (.iadd, 1) := by decide +kernel
theorem dSH_firstSteps_45 : decode cSH_firstSteps 45 = .ok (.iconst 1, 1) := by decide +kernel
theorem dSH_firstSteps_46 : decode cSH_firstSteps 46 = .ok (.iadd, 1) := by decide +kernel
theorem dSH_firstSteps_47 : decode cSH_firstSteps 47 = .ok (.dup2, 1) := by decide +kernel
theorem dSH_firstSteps_48 : decode cSH_firstSteps 48 = .ok (.iaload, 1) := by decide +kernel
theorem dSH_firstSteps_49 : decode cSH_firstSteps 49 = .ok (.iconst 1, 1) := by decide +kernel
theorem dSH_firstSteps_50 : decode cSH_firstSteps 50 = .ok (.iadd, 1) := by decide +kernel
theorem dSH_firstSteps_51 : decode cSH_firstSteps 51 = .ok (.iastore, 1) := by decide +kernel
theorem dSH_firstSteps_52 : decode cSH_firstSteps 52 = .ok (.iinc 3 1, 3) := by decide +kernel
theorem dSH_firstSteps_55 : decode cSH_firstSteps 55 = .ok (.goto (-36), 3) := by decide +kernel
theorem dSH_firstSteps_58 : decode cSH_firstSteps 58 = .ok (.iinc 2 1, 3) := by decide +kernel
theorem dSH_firstSteps_61 : decode cSH_firstSteps 61 = .ok (.goto (-50), 3) := by decide +kernel
theorem dSH_firstSteps_64 : decode cSH_firstSteps 64 = .ok (.iconst 0, 1) := by decide +kernel
theorem dSH_firstSteps_65 : decode cSH_firstSteps 65 = .ok (.istore_n 2, 1) := by decide +kernel
theorem dSH_firstSteps_66 : decode cSH_firstSteps 66 = .ok (.iload_n 2, 1) := by decide +kernel
theorem dSH_firstSteps_67 : decode cSH_firstSteps 67 = .ok (.iload_n 0, 1) := by decide +kernel
theorem dSH_firstSteps_68 : decode cSH_firstSteps 68 = .ok (.iload_n 0, 1) := by decide +kernel
theorem dSH_firstSteps_69 : decode cSH_firstSteps 69 = .ok (.imul, 1) := by decide +kernel
theorem dSH_firstSteps_70 : decode cSH_firstSteps 70 = .ok (.if_icmp .gt 20, 3) := by decide +kernel
theorem dSH_firstSteps_73 : decode cSH_firstSteps 73 = .ok (.aload_n 1, 1) := by decide +kernel
theorem dSH_firstSteps_74 : decode cSH_firstSteps 74 = .ok (.iload_n 2, 1) := by decide +kernel
theorem dSH_firstSteps_75 : decode cSH_firstSteps 75 = .ok (.iconst 1, 1) := by decide +kernel
theorem dSH_firstSteps_76 : decode cSH_firstSteps 76 = .ok (.iadd, 1) := by decide +kernel
theorem dSH_firstSteps_77 : decode cSH_firstSteps 77 = .ok (.dup2, 1) := by decide +kernel
theorem dSH_firstSteps_78 : decode cSH_firstSteps 78 = .ok (.iaload, 1) := by decide +kernel
theorem dSH_firstSteps_79 : decode cSH_firstSteps 79 = .ok (.aload_n 1, 1) := by decide +kernel
theorem dSH_firstSteps_80 : decode cSH_firstSteps 80 = .ok (.iload_n 2, 1) := by decide +kernel
theorem dSH_firstSteps_81 : decode cSH_firstSteps 81 = .ok (.iaload, 1) := by decide +kernel
theorem dSH_firstSteps_82 : decode cSH_firstSteps 82 = .ok (.iadd, 1) := by decide +kernel
theorem dSH_firstSteps_83 : decode cSH_firstSteps 83 = .ok (.iastore, 1) := by decide +kernel
theorem dSH_firstSteps_84 : decode cSH_firstSteps 84 = .ok (.iinc 2 1, 3) := by decide +kernel
theorem dSH_firstSteps_87 : decode cSH_firstSteps 87 = .ok (.goto (-21), 3) := by decide +kernel
theorem dSH_firstSteps_90 : decode cSH_firstSteps 90 = .ok (.aload_n 1, 1) := by decide +kernel
theorem dSH_firstSteps_91 : decode cSH_firstSteps 91 = .ok (.areturn, 1) := by decide +kernel
theorem dLW_cell_0 : decode cLW_cell 0 = .ok (.iload_n 1, 1) := by decide +kernel
theorem dLW_cell_1 : decode cLW_cell 1 = .ok (.aload_n 0, 1) := by decide +kernel
theorem dLW_cell_2 : decode cLW_cell 2 = .ok (.arraylength, 1) := by decide +kernel
theorem dLW_cell_3 : decode cLW_cell 3 = .ok (.if_icmp .ge 9, 3) := by decide +kernel
theorem dLW_cell_6 : decode cLW_cell 6 = .ok (.aload_n 0, 1) := by decide +kernel
theorem dLW_cell_7 : decode cLW_cell 7 = .ok (.iload_n 1, 1) := by decide +kernel
theorem dLW_cell_8 : decode cLW_cell 8 = .ok (.iaload, 1) := by decide +kernel
theorem dLW_cell_9 : decode cLW_cell 9 = .ok (.goto 4, 3) := by decide +kernel
theorem dLW_cell_12 : decode cLW_cell 12 = .ok (.iconst 0, 1) := by decide +kernel
theorem dLW_cell_13 : decode cLW_cell 13 = .ok (.ireturn, 1) := by decide +kernel
theorem dLW_height_0 : decode cLW_height 0 = .ok (.aload 4, 2) := by decide +kernel
theorem dLW_height_2 : decode cLW_height 2 = .ok (.iconst 0, 1) := by decide +kernel
theorem dLW_height_3 : decode cLW_height 3 = .ok (.aload_n 0, 1) := by decide +kernel
theorem dLW_height_4 : decode cLW_height 4 = .ok (.iload_n 1, 1) := by decide +kernel
theorem dLW_height_5 : decode cLW_height 5 = .ok (.iload_n 2, 1) := by decide +kernel
theorem dLW_height_6 : decode cLW_height 6 = .ok (.iload_n 3, 1) := by decide +kernel
theorem dLW_height_7 : decode cLW_height 7 = .ok (.invokevirtual 7, 3) := by decide +kernel
theorem dLW_height_10 : decode cLW_height 10 = .ok (.i2l, 1) := by decide +kernel
theorem dLW_height_11 : decode cLW_height 11 = .ok (.lastore, 1) := by decide +kernel
theorem dLW_height_12 : decode cLW_height 12 = .ok (.goto 7, 3) := by decide +kernel
theorem dLW_height_15 : decode cLW_height 15 = .ok (.astore 5, 2) := by decide +kernel
theorem dLW_height_17 : decode cLW_height 17 = .ok (.iconst 1, 1) := by decide +kernel
theorem dLW_height_18 : decode cLW_height 18 = .ok (.ireturn, 1) := by decide +kernel
theorem dLW_height_19 : decode cLW_height 19 = .ok (.iconst 0, 1) := by decide +kernel
theorem dLW_height_20 : decode cLW_height 20 = .ok (.ireturn, 1) := by decide +kernel
theorem dLW_rod_0 : decode cLW_rod 0 = .ok (.aload 4, 2) := by decide +kernel
theorem dLW_rod_2 : decode cLW_rod 2 = .ok (.iconst 0, 1) := by decide +kernel
theorem dLW_rod_3 : decode cLW_rod 3 = .ok (.aload_n 0, 1) := by decide +kernel
theorem dLW_rod_4 : decode cLW_rod 4 = .ok (.iload_n 1, 1) := by decide +kernel
theorem dLW_rod_5 : decode cLW_rod 5 = .ok (.iload_n 2, 1) := by decide +kernel
theorem dLW_rod_6 : decode cLW_rod 6 = .ok (.iload_n 3, 1) := by decide +kernel
theorem dLW_rod_7 : decode cLW_rod 7 = .ok (.invokevirtual 15, 3) := by decide +kernel
theorem dLW_rod_10 : decode cLW_rod 10 = .ok (.i2l, 1) := by decide +kernel
theorem dLW_rod_11 : decode cLW_rod 11 = .ok (.lastore, 1) := by decide +kernel
theorem dLW_rod_12 : decode cLW_rod 12 = .ok (.goto 7, 3) := by decide +kernel
theorem dLW_rod_15 : decode cLW_rod 15 = .ok (.astore 5, 2) := by decide +kernel
theorem dLW_rod_17 : decode cLW_rod 17 = .ok (.iconst 1, 1) := by decide +kernel
theorem dLW_rod_18 : decode cLW_rod 18 = .ok (.ireturn, 1) := by decide +kernel
theorem dLW_rod_19 : decode cLW_rod 19 = .ok (.iconst 0, 1) := by decide +kernel
theorem dLW_rod_20 : decode cLW_rod 20 = .ok (.ireturn, 1) := by decide +kernel
theorem dLW_rest_0 : decode cLW_rest 0 = .ok (.aload 4, 2) := by decide +kernel
theorem dLW_rest_2 : decode cLW_rest 2 = .ok (.iconst 0, 1) := by decide +kernel
theorem dLW_rest_3 : decode cLW_rest 3 = .ok (.aload_n 0, 1) := by decide +kernel
theorem dLW_rest_4 : decode cLW_rest 4 = .ok (.iload_n 1, 1) := by decide +kernel
theorem dLW_rest_5 : decode cLW_rest 5 = .ok (.iload_n 2, 1) := by decide +kernel
theorem dLW_rest_6 : decode cLW_rest 6 = .ok (.iload_n 3, 1) := by decide +kernel
theorem dLW_rest_7 : decode cLW_rest 7 = .ok (.invokevirtual 18, 3) := by decide +kernel
theorem dLW_rest_10 : decode cLW_rest 10 = .ok (.i2l, 1) := by decide +kernel
theorem dLW_rest_11 : decode cLW_rest 11 = .ok (.lastore, 1) := by decide +kernel
theorem dLW_rest_12 : decode cLW_rest 12 = .ok (.goto 7, 3) := by decide +kernel
theorem dLW_rest_15 : decode cLW_rest 15 = .ok (.astore 5, 2) := by decide +kernel
theorem dLW_rest_17 : decode cLW_rest 17 = .ok (.iconst 1, 1) := by decide +kernel
theorem dLW_rest_18 : decode cLW_rest 18 = .ok (.ireturn, 1) := by decide +kernel
theorem dLW_rest_19 : decode cLW_rest 19 = .ok (.iconst 0, 1) := by decide +kernel
theorem dLW_rest_20 : decode cLW_rest 20 = .ok (.ireturn, 1) := by decide +kernel
theorem dLW_touched_0 : decode cLW_touched 0 = .ok (.aload 4, 2) := by decide +kernel
theorem dLW_touched_2 : decode cLW_touched 2 = .ok (.iconst 0, 1) := by decide +kernel
theorem dLW_touched_3 : decode cLW_touched 3 = .ok (.aload_n 0, 1) := by decide +kernel
theorem dLW_touched_4 : decode cLW_touched 4 = .ok (.iload_n 1, 1) := by decide +kernel
theorem dLW_touched_5 : decode cLW_touched 5 = .ok (.iload_n 2, 1) := by decide +kernel
theorem dLW_touched_6 : decode cLW_touched 6 = .ok (.iload_n 3, 1) := by decide +kernel
theorem dLW_touched_7 : decode cLW_touched 7 = .ok (.invokevirtual 21, 3) := by decide +kernel
end
section
theorem dLW_touched_10 : decode cLW_touched 10 = .ok (.i2l, 1) := by decide +kernel
theorem dLW_touched_11 : decode cLW_touched 11 = .ok (.lastore, 1) := by decide +kernel
theorem dLW_touched_12 : decode cLW_touched 12 = .ok (.goto 7, 3) := by decide +kernel
theorem dLW_touched_15 : decode cLW_touched 15 = .ok (.astore 5, 2) := by decide +kernel
theorem dLW_touched_17 : decode cLW_touched 17 = .ok (.iconst 1, 1) := by decide +kernel
theorem dLW_touched_18 : decode cLW_touched 18 = .ok (.ireturn, 1) := by decide +kernel
theorem dLW_touched_19 : decode cLW_touched 19 = .ok (.iconst 0, 1) := by decide +kernel
theorem dLW_touched_20 : decode cLW_touched 20 = .ok (.ireturn, 1) := by decide +kernel
theorem dLW_higher_0 : decode cLW_higher 0 = .ok (.aload 5, 2) := by decide +kernel
theorem dLW_higher_2 : decode cLW_higher 2 = .ok (.iconst 0, 1) := by decide +kernel
theorem dLW_higher_3 : decode cLW_higher 3 = .ok (.aload_n 0, 1) := by decide +kernel
theorem dLW_higher_4 : decode cLW_higher 4 = .ok (.iload_n 1, 1) := by decide +kernel
theorem dLW_higher_5 : decode cLW_higher 5 = .ok (.iload_n 2, 1) := by decide +kernel
theorem dLW_higher_6 : decode cLW_higher 6 = .ok (.iload_n 3, 1) := by decide +kernel
theorem dLW_higher_7 : decode cLW_higher 7 = .ok (.iload 4, 2) := by decide +kernel
theorem dLW_higher_9 : decode cLW_higher 9 = .ok (.invokevirtual 24, 3) := by decide +kernel
theorem dLW_higher_12 : decode cLW_higher 12 = .ok (.i2l, 1) := by decide +kernel
theorem dLW_higher_13 : decode cLW_higher 13 = .ok (.lastore, 1) := by decide +kernel
theorem dLW_higher_14 : decode cLW_higher 14 = .ok (.goto 7, 3) := by decide +kernel
theorem dLW_higher_17 : decode cLW_higher 17 = .ok (.astore 6, 2) := by decide +kernel
theorem dLW_higher_19 : decode cLW_higher 19 = .ok (.iconst 1, 1) := by decide +kernel
theorem dLW_higher_20 : decode cLW_higher 20 = .ok (.ireturn, 1) := by decide +kernel
theorem dLW_higher_21 : decode cLW_higher 21 = .ok (.iconst 0, 1) := by decide +kernel
theorem dLW_higher_22 : decode cLW_higher 22 = .ok (.ireturn, 1) := by decide +kernel
theorem dLW_hits_0 : decode cLW_hits 0 = .ok (.aload_n 3, 1) := by decide +kernel
theorem dLW_hits_1 : decode cLW_hits 1 = .ok (.iconst 0, 1) := by decide +kernel
theorem dLW_hits_2 : decode cLW_hits 2 = .ok (.aload_n 0, 1) := by decide +kernel
theorem dLW_hits_3 : decode cLW_hits 3 = .ok (.iload_n 1, 1) := by decide +kernel
theorem dLW_hits_4 : decode cLW_hits 4 = .ok (.iload_n 2, 1) := by decide +kernel
theorem dLW_hits_5 : decode cLW_hits 5 = .ok (.invokevirtual 28, 3) := by decide +kernel
theorem dLW_hits_8 : decode cLW_hits 8 = .ok (.i2l, 1) := by decide +kernel
theorem dLW_hits_9 : decode cLW_hits 9 = .ok (.lastore, 1) := by decide +kernel
theorem dLW_hits_10 : decode cLW_hits 10 = .ok (.goto 7, 3) := by decide +kernel
theorem dLW_hits_13 : decode cLW_hits 13 = .ok (.astore 4, 2) := by decide +kernel
theorem dLW_hits_15 : decode cLW_hits 15 = .ok (.iconst 1, 1) := by decide +kernel
theorem dLW_hits_16 : decode cLW_hits 16 = .ok (.ireturn, 1) := by decide +kernel
theorem dLW_hits_17 : decode cLW_hits 17 = .ok (.iconst 0, 1) := by decide +kernel
theorem dLW_hits_18 : decode cLW_hits 18 = .ok (.ireturn, 1) := by decide +kernel
theorem dLW_safe_0 : decode cLW_safe 0 = .ok (.aload_n 2, 1) := by decide +kernel
theorem dLW_safe_1 : decode cLW_safe 1 = .ok (.iconst 0, 1) := by decide +kernel
theorem dLW_safe_2 : decode cLW_safe 2 = .ok (.aload_n 0, 1) := by decide +kernel
theorem dLW_safe_3 : decode cLW_safe 3 = .ok (.iload_n 1, 1) := by decide +kernel
theorem dLW_safe_4 : decode cLW_safe 4 = .ok (.invokevirtual 32, 3) := by decide +kernel
theorem dLW_safe_7 : decode cLW_safe 7 = .ok (.i2l, 1) := by decide +kernel
theorem dLW_safe_8 : decode cLW_safe 8 = .ok (.lastore, 1) := by decide +kernel
theorem dLW_safe_9 : decode cLW_safe 9 = .ok (.goto 6, 3) := by decide +kernel
theorem dLW_safe_12 : decode cLW_safe 12 = .ok (.astore_n 3, 1) := by decide +kernel
theorem dLW_safe_13 : decode cLW_safe 13 = .ok (.iconst 1, 1) := by decide +kernel
theorem dLW_safe_14 : decode cLW_safe 14 = .ok (.ireturn, 1) := by decide +kernel
theorem dLW_safe_15 : decode cLW_safe 15 = .ok (.iconst 0, 1) := by decide +kernel
theorem dLW_safe_16 : decode cLW_safe 16 = .ok (.ireturn, 1) := by decide +kernel
theorem dLW_cover_0 : decode cLW_cover 0 = .ok (.aload_n 3, 1) := by decide +kernel
theorem dLW_cover_1 : decode cLW_cover 1 = .ok (.iconst 0, 1) := by decide +kernel
theorem dLW_cover_2 : decode cLW_cover 2 = .ok (.aload_n 0, 1) := by decide +kernel
theorem dLW_cover_3 : decode cLW_cover 3 = .ok (.iload_n 1, 1) := by decide +kernel
theorem dLW_cover_4 : decode cLW_cover 4 = .ok (.iload_n 2, 1) := by decide +kernel
theorem dLW_cover_5 : decode cLW_cover 5 = .ok (.invokevirtual 36, 3) := by decide +kernel
theorem dLW_cover_8 : decode cLW_cover 8 = .ok (.i2l, 1) := by decide +kernel
theorem dLW_cover_9 : decode cLW_cover 9 = .ok (.lastore, 1) := by decide +kernel
theorem dLW_cover_10 : decode cLW_cover 10 = .ok (.goto 7, 3) := by decide +kernel
theorem dLW_cover_13 : decode cLW_cover 13 = .ok (.astore 4, 2) := by decide +kernel
theorem dLW_cover_15 : decode cLW_cover 15 = .ok (.iconst 1, 1) := by decide +kernel
theorem dLW_cover_16 : decode cLW_cover 16 = .ok (.ireturn, 1) := by decide +kernel
theorem dLW_cover_17 : decode cLW_cover 17 = .ok (.iconst 0, 1) := by decide +kernel
theorem dLW_cover_18 : decode cLW_cover 18 = .ok (.ireturn, 1) := by decide +kernel
theorem dLW_may_0 : decode cLW_may 0 = .ok (.aload 4, 2) := by decide +kernel
theorem dLW_may_2 : decode cLW_may 2 = .ok (.iconst 0, 1) := by decide +kernel
theorem dLW_may_3 : decode cLW_may 3 = .ok (.aload_n 0, 1) := by decide +kernel
theorem dLW_may_4 : decode cLW_may 4 = .ok (.iload_n 1, 1) := by decide +kernel
theorem dLW_may_5 : decode cLW_may 5 = .ok (.iload_n 2, 1) := by decide +kernel
theorem dLW_may_6 : decode cLW_may 6 = .ok (.iload_n 3, 1) := by decide +kernel
theorem dLW_may_7 : decode cLW_may 7 = .ok (.invokevirtual 39, 3) := by decide +kernel
theorem dLW_may_10 : decode cLW_may 10 = .ok (.i2l, 1) := by decide +kernel
theorem dLW_may_11 : decode cLW_may 11 = .ok (.lastore, 1) := by decide +kernel
theorem dLW_may_12 : decode cLW_may 12 = .ok (.goto 11, 3) := by decide +kernel
theorem dLW_may_15 : decode cLW_may 15 = .ok (.astore 5, 2) := by decide +kernel
theorem dLW_may_17 : decode cLW_may 17 = .ok (.iconst 1, 1) := by decide +kernel
theorem dLW_may_18 : decode cLW_may 18 = .ok (.ireturn, 1) := by decide +kernel
theorem dLW_may_19 : decode cLW_may 19 = .ok (.astore 5, 2) := by decide +kernel
theorem dLW_may_21 : decode cLW_may 21 = .ok (.iconst 2, 1) := by decide +kernel
theorem dLW_may_22 : decode cLW_may 22 = .ok (.ireturn, 1) := by decide +kernel
theorem dLW_may_23 : decode cLW_may 23 = .ok (.iconst 0, 1) := by decide +kernel
theorem dLW_may_24 : decode cLW_may 24 = .ok (.ireturn, 1) := by decide +kernel
theorem dLW_want_0 : decode cLW_want 0 = .ok (.aload 4, 2) := by decide +kernel
theorem dLW_want_2 : decode cLW_want 2 = .ok (.iconst 0, 1) := by decide +kernel
theorem dLW_want_3 : decode cLW_want 3 = .ok (.aload_n 0, 1) := by decide +kernel
theorem dLW_want_4 : decode cLW_want 4 = .ok (.iload_n 1, 1) := by decide +kernel
theorem dLW_want_5 : decode cLW_want 5 = .ok (.iload_n 2, 1) := by decide +kernel
theorem dLW_want_6 : decode cLW_want 6 = .ok (.iload_n 3, 1) := by decide +kernel
theorem dLW_want_7 : decode cLW_want 7 = .ok (.invokevirtual 44, 3) := by decide +kernel
theorem dLW_want_10 : decode cLW_want 10 = .ok (.ifCond .eq 7, 3) := by decide +kernel
theorem dLW_want_13 : decode cLW_want 13 = .ok (.lconst 1, 1) := by decide +kernel
theorem dLW_want_14 : decode cLW_want 14 = .ok (.goto 4, 3) := by decide +kernel
theorem dLW_want_17 : decode cLW_want 17 = .ok (.lconst 0, 1) := by decide +kernel
theorem dLW_want_18 : decode cLW_want 18 = .ok (.lastore, 1) := by decide +kernel
theorem dLW_want_19 : decode cLW_want 19 = .ok (.goto 7, 3) := by decide +kernel
theorem dLW_want_22 : decode cLW_want 22 = .ok (.astore 5, 2) := by decide +kernel
theorem dLW_want_24 : decode cLW_want 24 = .ok (.iconst 1, 1) := by decide +kernel
theorem dLW_want_25 : decode cLW_want 25 = .ok (.ireturn, 1) := by decide +kernel
theorem dLW_want_26 : decode cLW_want 26 = .ok (.iconst 0, 1) := by decide +kernel
theorem dLW_want_27 : decode cLW_want 27 = .ok (.ireturn, 1) := by decide +kernel
theorem dJI_bitCount_0 : decode cJI_bitCount 0 = .ok (.iload_n 0, 1) := by decide +kernel
theorem dJI_bitCount_1 : decode cJI_bitCount 1 = .ok (.iload_n 0, 1) := by decide +kernel
theorem dJI_bitCount_2 : decode cJI_bitCount 2 = .ok (.iconst 1, 1) := by decide +kernel
theorem dJI_bitCount_3 : decode cJI_bitCount 3 = .ok (.iushr, 1) := by decide +kernel
theorem dJI_bitCount_4 : decode cJI_bitCount 4 = .ok (.ldc_w 265, 3) := by decide +kernel
theorem dJI_bitCount_7 : decode cJI_bitCount 7 = .ok (.iand, 1) := by decide +kernel
theorem dJI_bitCount_8 : decode cJI_bitCount 8 = .ok (.isub, 1) := by decide +kernel
theorem dJI_bitCount_9 : decode cJI_bitCount 9 = .ok (.istore_n 0, 1) := by decide +kernel
theorem dJI_bitCount_10 : decode cJI_bitCount 10 = .ok (.iload_n 0, 1) := by decide +kernel
theorem dJI_bitCount_11 : decode cJI_bitCount 11 = .ok (.ldc_w 266, 3) := by decide +kernel
theorem dJI_bitCount_14 : decode cJI_bitCount 14 = .ok (.iand, 1) := by decide +kernel
theorem dJI_bitCount_15 : decode cJI_bitCount 15 = .ok (.iload_n 0, 1) := by decide +kernel
theorem dJI_bitCount_16 : decode cJI_bitCount 16 = .ok (.iconst 2, 1) := by decide +kernel
theorem dJI_bitCount_17 : decode cJI_bitCount 17 = .ok (.iushr, 1) := by decide +kernel
theorem dJI_bitCount_18 : decode cJI_bitCount 18 = .ok (.ldc_w 266, 3) := by decide +kernel
theorem dJI_bitCount_21 : decode cJI_bitCount 21 = .ok (.iand, 1) := by decide +kernel
theorem dJI_bitCount_22 : decode cJI_bitCount 22 = .ok (.iadd, 1) := by decide +kernel
theorem dJI_bitCount_23 : decode cJI_bitCount 23 = .ok (.istore_n 0, 1) := by decide +kernel
theorem dJI_bitCount_24 : decode cJI_bitCount 24 = .ok (.iload_n 0, 1) := by decide +kernel
theorem dJI_bitCount_25 : decode cJI_bitCount 25 = .ok (.iload_n 0, 1) := by decide +kernel
theorem dJI_bitCount_26 : decode cJI_bitCount 26 = .ok (.iconst 4, 1) := by decide +kernel
theorem dJI_bitCount_27 : decode cJI_bitCount 27 = .ok (.iushr, 1) := by decide +kernel
theorem dJI_bitCount_28 : decode cJI_bitCount 28 = .ok (.iadd, 1) := by decide +kernel
theorem dJI_bitCount_29 : decode cJI_bitCount 29 = .ok (.ldc_w 267, 3) := by decide +kernel
theorem dJI_bitCount_32 : decode cJI_bitCount 32 = .ok (.iand, 1) := by decide +kernel
theorem dJI_bitCount_33 : decode cJI_bitCount 33 = .ok (.istore_n 0, 1) := by decide +kernel
theorem dJI_bitCount_34 : decode cJI_bitCount 34 = .ok (.iload_n 0, 1) := by decide +kernel
theorem dJI_bitCount_35 : decode cJI_bitCount 35 = .ok (.iload_n 0, 1) := by decide +kernel
theorem dJI_bitCount_36 : decode cJI_bitCount 36 = .ok (.bipush 8, 2) := by decide +kernel
theorem dJI_bitCount_38 : decode cJI_bitCount 38 = .ok (.iushr, 1) := by decide +kernel
theorem dJI_bitCount_39 : decode cJI_bitCount 39 = .ok (.iadd, 1) := by decide +kernel
theorem dJI_bitCount_40 : decode cJI_bitCount 40 = .ok (.istore_n 0, 1) := by decide +kernel
theorem dJI_bitCount_41 : decode cJI_bitCount 41 = .ok (.iload_n 0, 1) := by decide +kernel
theorem dJI_bitCount_42 : decode cJI_bitCount 42 = .ok (.iload_n 0, 1) := by decide +kernel
theorem dJI_bitCount_43 : decode cJI_bitCount 43 = .ok (.bipush 16, 2) := by decide +kernel
theorem dJI_bitCount_45 : decode cJI_bitCount 45 = .ok (.iushr, 1) := by decide +kernel
theorem dJI_bitCount_46 : decode cJI_bitCount 46 = .ok (.iadd, 1) := by decide +kernel
theorem dJI_bitCount_47 : decode cJI_bitCount 47 = .ok (.istore_n 0, 1) := by decide +kernel
theorem dJI_bitCount_48 : decode cJI_bitCount 48 = .ok (.iload_n 0, 1) := by decide +kernel
theorem dJI_bitCount_49 : decode cJI_bitCount 49 = .ok (.bipush 63, 2) := by decide +kernel
theorem dJI_bitCount_51 : decode cJI_bitCount 51 = .ok (.iand, 1) := by decide +kernel
theorem dJI_bitCount_52 : decode cJI_bitCount 52 = .ok (.ireturn, 1) := by decide +kernel
theorem dJI_compare_0 : decode cJI_compare 0 = .ok (.iload_n 0, 1) := by decide +kernel
theorem dJI_compare_1 : decode cJI_compare 1 = .ok (.iload_n 1, 1) := by decide +kernel
theorem dJI_compare_2 : decode cJI_compare 2 = .ok (.if_icmp .ge 7, 3) := by decide +kernel
theorem dJI_compare_5 : decode cJI_compare 5 = .ok (.iconst (-1), 1) := by decide +kernel
theorem dJI_compare_6 : decode cJI_compare 6 = .ok (.goto 13, 3) := by decide +kernel
theorem dJI_compare_9 : decode cJI_compare 9 = .ok (.iload_n 0, 1) := by decide +kernel
theorem dJI_compare_10 : decode cJI_compare 10 = .ok (.iload_n 1, 1) := by decide +kernel
theorem dJI_compare_11 : decode cJI_compare 11 = .ok (.if_icmp .ne 7, 3) := by decide +kernel
theorem dJI_compare_14 : decode cJI_compare 14 = .ok (.iconst 0, 1) := by decide +kernel
theorem dJI_compare_15 : decode cJI_compare 15 = .ok (.goto 4, 3) := by decide +kernel
theorem dJI_compare_18 : decode cJI_compare 18 = .ok (.iconst 1, 1) := by decide +kernel
theorem dJI_compare_19 : decode cJI_compare 19 = .ok (.ireturn, 1) := by decide +kernel
theorem dJA_fill_0 : decode cJA_fill 0 = .ok (.iconst 0, 1) := by decide +kernel
theorem dJA_fill_1 : decode cJA_fill 1 = .ok (.istore_n 2, 1) := by decide +kernel
theorem dJA_fill_2 : decode cJA_fill 2 = .ok (.aload_n 0, 1) := by decide +kernel
theorem dJA_fill_3 : decode cJA_fill 3 = .ok (.arraylength, 1) := by decide +kernel
theorem dJA_fill_4 : decode cJA_fill 4 = .ok (.istore_n 3, 1) := by decide +kernel
theorem dJA_fill_5 : decode cJA_fill 5 = .ok (.iload_n 2, 1) := by decide +kernel
theorem dJA_fill_6 : decode cJA_fill 6 = .ok (.iload_n 3, 1) := by decide +kernel
theorem dJA_fill_7 : decode cJA_fill 7 = .ok (.if_icmp .ge 13, 3) := by decide +kernel
theorem dJA_fill_10 : decode cJA_fill 10 = .ok (.aload_n 0, 1) := by decide +kernel
theorem dJA_fill_11 : decode cJA_fill 11 = .ok (.iload_n 2, 1) := by decide +kernel
theorem dJA_fill_12 : decode cJA_fill 12 = .ok (.iload_n 1, 1) := by decide +kernel
theorem dJA_fill_13 : decode cJA_fill 13 = .ok (.iastore, 1) := by decide +kernel
theorem dJA_fill_14 : decode cJA_fill 14 = .ok (.iinc 2 1, 3) := by decide +kernel
theorem dJA_fill_17 : decode cJA_fill 17 = .ok (.goto (-12), 3) := by decide +kernel
theorem dJA_fill_20 : decode cJA_fill 20 = .ok (.return_, 1) := by decide +kernel
theorem dLW_law_0 : decode cLW_law 0 = .ok (.new 8, 3) := by decide +kernel
theorem dLW_law_3 : decode cLW_law 3 = .ok (.dup, 1) := by decide +kernel
theorem dLW_law_4 : decode cLW_law 4 = .ok (.aload_n 0, 1) := by decide +kernel
theorem dLW_law_5 : decode cLW_law 5 = .ok (.iconst 0, 1) := by decide +kernel
theorem dLW_law_6 : decode cLW_law 6 = .ok (.invokestatic 48, 3) := by decide +kernel
theorem dLW_law_9 : decode cLW_law 9 = .ok (.aload_n 0, 1) := by decide +kernel
theorem dLW_law_10 : decode cLW_law 10 = .ok (.iconst 1, 1) := by decide +kernel
theorem dLW_law_11 : decode cLW_law 11 = .ok (.invokestatic 48, 3) := by decide +kernel
theorem dLW_law_14 : decode cLW_law 14 = .ok (.aload_n 0, 1) := by decide +kernel
theorem dLW_law_15 : decode cLW_law 15 = .ok (.iconst 2, 1) := by decide +kernel
theorem dLW_law_16 : decode cLW_law 16 = .ok (.invokestatic 48, 3) := by decide +kernel
theorem dLW_law_19 : decode cLW_law 19 = .ok (.invokespecial 54, 3) := by decide +kernel
theorem dLW_law_22 : decode cLW_law 22 = .ok (.astore_n 1, 1) := by decide +kernel
theorem dLW_law_23 : decode cLW_law 23 = .ok (.new 57, 3) := by decide +kernel
theorem dLW_law_26 : decode cLW_law 26 = .ok (.dup, 1) := by decide +kernel
theorem dLW_law_27 : decode cLW_law 27 = .ok (.aload_n 0, 1) := by decide +kernel
theorem dLW_law_28 : decode cLW_law 28 = .ok (.iconst 0, 1) := by decide +kernel
theorem dLW_law_29 : decode cLW_law 29 = .ok (.invokestatic 48, 3) := by decide +kernel
theorem dLW_law_32 : decode cLW_law 32 = .ok (.aload_n 0, 1) := by decide +kernel
theorem dLW_law_33 : decode cLW_law 33 = .ok (.iconst 1, 1) := by decide +kernel
theorem dLW_law_34 : decode cLW_law 34 = .ok (.invokestatic 48, 3) := by decide +kernel
theorem dLW_law_37 : decode cLW_law 37 = .ok (.aload_n 0, 1) := by decide +kernel
theorem dLW_law_38 : decode cLW_law 38 = .ok (.iconst 2, 1) := by decide +kernel
theorem dLW_law_39 : decode cLW_law 39 = .ok (.invokestatic 48, 3) := by decide +kernel
theorem dLW_law_42 : decode cLW_law 42 = .ok (.invokespecial 59, 3) := by decide +kernel
theorem dLW_law_45 : decode cLW_law 45 = .ok (.astore_n 2, 1) := by decide +kernel
theorem dLW_law_46 : decode cLW_law 46 = .ok (.iconst 1, 1) := by decide +kernel
theorem dLW_law_47 : decode cLW_law 47 = .ok (.newarray .long, 2) := by decide +kernel
theorem dLW_law_49 : decode cLW_law 49 = .ok (.astore_n 3, 1) := by decide +kernel
theorem dLW_law_50 : decode cLW_law 50 = .ok (.iconst 3, 1) := by decide +kernel
theorem dLW_law_51 : decode cLW_law 51 = .ok (.istore 4, 2) := by decide +kernel
theorem dLW_law_53 : decode cLW_law 53 = .ok (.iload 4, 2) := by decide +kernel
theorem dLW_law_55 : decode cLW_law 55 = .ok (.aload_n 0, 1) := by decide +kernel
theorem dLW_law_56 : decode cLW_law 56 = .ok (.arraylength, 1) := by decide +kernel
theorem dLW_law_57 : decode cLW_law 57 = .ok (.iconst 5, 1) := by decide +kernel
theorem dLW_law_58 : decode cLW_law 58 = .ok (.isub, 1) := by decide +kernel
theorem dLW_law_59 : decode cLW_law 59 = .ok (.if_icmp .gt 938, 3) := by decide +kernel
theorem dLW_law_62 : decode cLW_law 62 = .ok (.aload_n 0, 1) := by decide +kernel
theorem dLW_law_63 : decode cLW_law 63 = .ok (.iload 4, 2) := by decide +kernel
theorem dLW_law_65 : decode cLW_law 65 = .ok (.iaload, 1) := by decide +kernel
theorem dLW_law_66 : decode cLW_law 66 = .ok (.bipush 15, 2) := by decide +kernel
theorem dLW_law_68 : decode cLW_law 68 = .ok (.iand, 1) := by decide +kernel
theorem dLW_law_69 : decode cLW_law 69 = .ok (.tableswitch 922 0 13 #[71, 151, 231, 311, 391, 483, 496, 564, 620, 688, 768, 781, 884, 897], 71) := by decide +kernel
theorem dLW_law_140 : decode cLW_law 140 = .ok (.aload_n 1, 1) := by decide +kernel
theorem dLW_law_141 : decode cLW_law 141 = .ok (.aload_n 0, 1) := by decide +kernel
theorem dLW_law_142 : decode cLW_law 142 = .ok (.iload 4, 2) := by decide +kernel
theorem dLW_law_144 : decode cLW_law 144 = .ok (.iconst 1, 1) := by decide +kernel
theorem dLW_law_145 : decode cLW_law 145 = .ok (.iadd, 1) := by decide +kernel
theorem dLW_law_146 : decode cLW_law 146 = .ok (.iaload, 1) := by decide +kernel
theorem dLW_law_147 : decode cLW_law 147 = .ok (.aload_n 0, 1) := by decide +kernel
theorem dLW_law_148 : decode cLW_law 148 = .ok (.iload 4, 2) := by decide +kernel
theorem dLW_law_150 : decode cLW_law 150 = .ok (.iconst 2, 1) := by decide +kernel
theorem dLW_law_151 : decode cLW_law 151 = .ok (.iadd, 1) := by decide +kernel
theorem dLW_law_152 : decode cLW_law 152 = .ok (.iaload, 1) := by decide +kernel
theorem dLW_law_153 : decode cLW_law 153 = .ok (.aload_n 0, 1) := by decide +kernel
theorem dLW_law_154 : decode cLW_law 154 = .ok (.iload 4, 2) := by decide +kernel
theorem dLW_law_156 : decode cLW_law 156 = .ok (.iconst 3, 1) := by decide +kernel
theorem dLW_law_157 : decode cLW_law 157 = .ok (.iadd, 1) := by decide +kernel
theorem dLW_law_158 : decode cLW_law 158 = .ok (.iaload, 1) := by decide +kernel
theorem dLW_law_159 : decode cLW_law 159 = .ok (.aload_n 3, 1) := by decide +kernel
theorem dLW_law_160 : decode cLW_law 160 = .ok (.invokestatic 60, 3) := by decide +kernel
theorem dLW_law_163 : decode cLW_law 163 = .ok (.istore 5, 2) := by decide +kernel
theorem dLW_law_165 : decode cLW_law 165 = .ok (.aload_n 2, 1) := by decide +kernel
theorem dLW_law_166 : decode cLW_law 166 = .ok (.aload_n 0, 1) := by decide +kernel
theorem dLW_law_167 : decode cLW_law 167 = .ok (.iload 4, 2) := by decide +kernel
theorem dLW_law_169 : decode cLW_law 169 = .ok (.iconst 1, 1) := by decide +kernel
theorem dLW_law_170 : decode cLW_law 170 = .ok (.iadd, 1) := by decide +kernel
theorem dLW_law_171 : decode cLW_law 171 = .ok (.iaload, 1) := by decide +kernel
theorem dLW_law_172 : decode cLW_law 172 = .ok (.aload_n 0, 1) := by decide +kernel
theorem dLW_law_173 : decode cLW_law 173 = .ok (.iload 4, 2) := by decide +kernel
theorem dLW_law_175 : decode cLW_law 175 = .ok (.iconst 2, 1) := by decide +kernel
theorem dLW_law_176 : decode cLW_law 176 = .ok (.iadd, 1) := by decide +kernel
theorem dLW_law_177 : decode cLW_law 177 = .ok (.iaload, 1) := by decide +kernel
theorem dLW_law_178 : decode cLW_law 178 = .ok (.aload_n 0, 1) := by decide +kernel
theorem dLW_law_179 : decode cLW_law 179 = .ok (.iload 4, 2) := by decide +kernel
theorem dLW_law_181 : decode cLW_law 181 = .ok (.iconst 3, 1) := by decide +kernel
theorem dLW_law_182 : decode cLW_law 182 = .ok (.iadd, 1) := by decide +kernel
theorem dLW_law_183 : decode cLW_law 183 = .ok (.iaload, 1) := by decide +kernel
theorem dLW_law_184 : decode cLW_law 184 = .ok (.invokevirtual 63, 3) := by decide +kernel
theorem dLW_law_187 : decode cLW_law 187 = .ok (.istore 6, 2) := by decide +kernel
theorem dLW_law_189 : decode cLW_law 189 = .ok (.aload_n 2, 1) := by decide +kernel
theorem dLW_law_190 : decode cLW_law 190 = .ok (.invokevirtual 64, 3) := by decide +kernel
theorem dLW_law_193 : decode cLW_law 193 = .ok (.iload 5, 2) := by decide +kernel
theorem dLW_law_195 : decode cLW_law 195 = .ok (.if_icmp .eq 5, 3) := by decide +kernel
theorem dLW_law_198 : decode cLW_law 198 = .ok (.iconst 0, 1) := by decide +kernel
theorem dLW_law_199 : decode cLW_law 199 = .ok (.ireturn, 1) := by decide +kernel
theorem dLW_law_200 : decode cLW_law 200 = .ok (.iload 5, 2) := by decide +kernel
theorem dLW_law_202 : decode cLW_law 202 = .ok (.ifCond .ne 15, 3) := by decide +kernel
theorem dLW_law_205 : decode cLW_law 205 = .ok (.aload_n 3, 1) := by decide +kernel
theorem dLW_law_206 : decode cLW_law 206 = .ok (.iconst 0, 1) := by decide +kernel
theorem dLW_law_207 : decode cLW_law 207 = .ok (.laload, 1) := by decide +kernel
theorem dLW_law_208 : decode cLW_law 208 = .ok (.iload 6, 2) := by decide +kernel
theorem dLW_law_210 : decode cLW_law 210 = .ok (.i2l, 1) := by decide +kernel
theorem dLW_law_211 : decode cLW_law 211 = .ok (.lcmp, 1) := by decide +kernel
theorem dLW_law_212 : decode cLW_law 212 = .ok (.ifCond .eq 5, 3) := by decide +kernel
theorem dLW_law_215 : decode cLW_law 215 = .ok (.iconst 0, 1) := by decide +kernel
theorem dLW_law_216 : decode cLW_law 216 = .ok (.ireturn, 1) := by decide +kernel
theorem dLW_law_217 : decode cLW_law 217 = .ok (.goto 774, 3) := by decide +kernel
theorem dLW_law_220 : decode cLW_law 220 = .ok (.aload_n 1, 1) := by decide +kernel
theorem dLW_law_221 : decode cLW_law 221 = .ok (.aload_n 0, 1) := by decide +kernel
theorem dLW_law_222 : decode cLW_law 222 = .ok (.iload 4, 2) := by decide +kernel
theorem dLW_law_224 : decode cLW_law 224 = .ok (.iconst 1, 1) := by decide +kernel
theorem dLW_law_225 : decode cLW_law 225 = .ok (.iadd, 1) := by decide +kernel
theorem dLW_law_226 : decode cLW_law 226 = .ok (.iaload, 1) := by decide +kernel
theorem dLW_law_227 : decode cLW_law 227 = .ok (.aload_n 0, 1) := by decide +kernel
theorem dLW_law_228 : decode cLW_law 228 = .ok (.iload 4, 2) := by decide +kernel
theorem dLW_law_230 : decode cLW_law 230 = .ok (.iconst 2, 1) := by decide +kernel
theorem dLW_law_231 : decode cLW_law 231 = .ok (.iadd, 1) := by decide +kernel
theorem dLW_law_232 : decode cLW_law 232 = .ok (.iaload, 1) := by decide +kernel
theorem dLW_law_233 : decode cLW_law 233 = .ok (.aload_n 0, 1) := by decide +kernel
theorem dLW_law_234 : decode cLW_law 234 = .ok (.iload 4, 2) := by decide +kernel
theorem dLW_law_236 : decode cLW_law 236 = .ok (.iconst 3, 1) := by decide +kernel
theorem dLW_law_237 : decode cLW_law 237 = .ok (.iadd, 1) := by decide +kernel
theorem dLW_law_238 : decode cLW_law 238 = .ok (.iaload, 1) := by decide +kernel
theorem dLW_law_239 : decode cLW_law 239 = .ok (.aload_n 3, 1) := by decide +kernel
theorem dLW_law_240 : decode cLW_law 240 = .ok (.invokestatic 68, 3) := by decide +kernel
theorem dLW_law_243 : decode cLW_law 243 = .ok (.istore 5, 2) := by decide +kernel
theorem dLW_law_245 : decode cLW_law 245 = .ok (.aload_n 2, 1) := by decide +kernel
theorem dLW_law_246 : decode cLW_law 246 = .ok (.aload_n 0, 1) := by decide +kernel
theorem dLW_law_247 : decode cLW_law 247 = .ok (.iload 4, 2) := by decide +kernel
theorem dLW_law_249 : decode cLW_law 249 = .ok (.iconst 1, 1) := by decide +kernel
theorem dLW_law_250 : decode cLW_law 250 = .ok (.iadd, 1) := by decide +kernel
theorem dLW_law_251 : decode cLW_law 251 = .ok (.iaload, 1) := by decide +kernel
theorem dLW_law_252 : decode cLW_law 252 = .ok (.aload_n 0, 1) := by decide +kernel
theorem dLW_law_253 : decode cLW_law 253 = .ok (.iload 4, 2) := by decide +kernel
theorem dLW_law_255 : decode cLW_law 255 = .ok (.iconst 2, 1) := by decide +kernel
theorem dLW_law_256 : decode cLW_law 256 = .ok (.iadd, 1) := by decide +kernel
theorem dLW_law_257 : decode cLW_law 257 = .ok (.iaload, 1) := by decide +kernel
theorem dLW_law_258 : decode cLW_law 258 = .ok (.aload_n 0, 1) := by decide +kernel
theorem dLW_law_259 : decode cLW_law 259 = .ok (.iload 4, 2) := by decide +kernel
theorem dLW_law_261 : decode cLW_law 261 = .ok (.iconst 3, 1) := by decide +kernel
theorem dLW_law_262 : decode cLW_law 262 = .ok (.iadd, 1) := by decide +kernel
theorem dLW_law_263 : decode cLW_law 263 = .ok (.iaload, 1) := by decide +kernel
theorem dLW_law_264 : decode cLW_law 264 = .ok (.invokevirtual 70, 3) := by decide +kernel
theorem dLW_law_267 : decode cLW_law 267 = .ok (.istore 6, 2) := by decide +kernel
theorem dLW_law_269 : decode cLW_law 269 = .ok (.aload_n 2, 1) := by decide +kernel
theorem dLW_law_270 : decode cLW_law 270 = .ok (.invokevirtual 64, 3) := by decide +kernel
theorem dLW_law_273 : decode cLW_law 273 = .ok (.iload 5, 2) := by decide +kernel
theorem dLW_law_275 : decode cLW_law 275 = .ok (.if_icmp .eq 5, 3) := by decide +kernel
theorem dLW_law_278 : decode cLW_law 278 = .ok (.iconst 0, 1) := by decide +kernel
theorem dLW_law_279 : decode cLW_law 279 = .ok (.ireturn, 1) := by decide +kernel
theorem dLW_law_280 : decode cLW_law 280 = .ok (.iload 5, 2) := by decide +kernel
theorem dLW_law_282 : decode cLW_law 282 = .ok (.ifCond .ne 15, 3) := by decide +kernel
theorem dLW_law_285 : decode cLW_law 285 = .ok (.aload_n 3, 1) := by decide +kernel
theorem dLW_law_286 : decode cLW_law 286 = .ok (.iconst 0, 1) := by decide +kernel
theorem dLW_law_287 : decode cLW_law 287 = .ok (.laload, 1) := by decide +kernel
theorem dLW_law_288 : decode cLW_law 288 = .ok (.iload 6, 2) := by decide +kernel
theorem dLW_law_290 : decode cLW_law 290 = .ok (.i2l, 1) := by decide +kernel
theorem dLW_law_291 : decode cLW_law 291 = .ok (.lcmp, 1) := by decide +kernel
theorem dLW_law_292 : decode cLW_law 292 = .ok (.ifCond .eq 5, 3) := by decide +kernel
theorem dLW_law_295 : decode cLW_law 295 = .ok (.iconst 0, 1) := by decide +kernel
theorem dLW_law_296 : decode cLW_law 296 = .ok (.ireturn, 1) := by decide +kernel
theorem dLW_law_297 : decode cLW_law 297 = .ok (.goto 694, 3) := by decide +kernel
theorem dLW_law_300 : decode cLW_law 300 = .ok (.aload_n 1, 1) := by decide +kernel
theorem dLW_law_301 : decode cLW_law 301 = .ok (.aload_n 0, 1) := by decide +kernel
theorem dLW_law_302 : decode cLW_law 302 = .ok (.iload 4, 2) := by decide +kernel
theorem dLW_law_304 : decode cLW_law 304 = .ok (.iconst 1, 1) := by decide +kernel
theorem dLW_law_305 : decode cLW_law 305 = .ok (.iadd, 1) := by decide +kernel
theorem dLW_law_306 : decode cLW_law 306 = .ok (.iaload, 1) := by decide +kernel
theorem dLW_law_307 : decode cLW_law 307 = .ok (.aload_n 0, 1) := by decide +kernel
theorem dLW_law_308 : decode cLW_law 308 = .ok (.iload 4, 2) := by decide +kernel
theorem dLW_law_310 : decode cLW_law 310 = .ok (.iconst 2, 1) := by decide +kernel
theorem dLW_law_311 : decode cLW_law 311 = .ok (.iadd, 1) := by decide +kernel
theorem dLW_law_312 : decode cLW_law 312 = .ok (.iaload, 1) := by decide +kernel
theorem dLW_law_313 : decode cLW_law 313 = .ok (.aload_n 0, 1) := by decide +kernel
theorem dLW_law_314 : decode cLW_law 314 = .ok (.iload 4, 2) := by decide +kernel
theorem dLW_law_316 : decode cLW_law 316 = .ok (.iconst 3, 1) := by decide +kernel
theorem dLW_law_317 : decode cLW_law 317 = .ok (.iadd, 1) := by decide +kernel
theorem dLW_law_318 : decode cLW_law 318 = .ok (.iaload, 1) := by decide +kernel
theorem dLW_law_319 : decode cLW_law 319 = .ok (.aload_n 3, 1) := by decide +kernel
theorem dLW_law_320 : decode cLW_law 320 = .ok (.invokestatic 71, 3) := by decide +kernel
theorem dLW_law_323 : decode cLW_law 323 = .ok (.istore 5, 2) := by decide +kernel
theorem dLW_law_325 : decode cLW_law 325 = .ok (.aload_n 2, 1) := by decide +kernel
theorem dLW_law_326 : decode cLW_law 326 = .ok (.aload_n 0, 1) := by decide +kernel
theorem dLW_law_327 : decode cLW_law 327 = .ok (.iload 4, 2) := by decide +kernel
theorem dLW_law_329 : decode cLW_law 329 = .ok (.iconst 1, 1) := by decide +kernel
theorem dLW_law_330 : decode cLW_law 330 = .ok (.iadd, 1) := by decide +kernel
theorem dLW_law_331 : decode cLW_law 331 = .ok (.iaload, 1) := by decide +kernel
theorem dLW_law_332 : decode cLW_law 332 = .ok (.aload_n 0, 1) := by decide +kernel
theorem dLW_law_333 : decode cLW_law 333 = .ok (.iload 4, 2) := by decide +kernel
theorem dLW_law_335 : decode cLW_law 335 = .ok (.iconst 2, 1) := by decide +kernel
theorem dLW_law_336 : decode cLW_law 336 = .ok (.iadd, 1) := by decide +kernel
theorem dLW_law_337 : decode cLW_law 337 = .ok (.iaload, 1) := by decide +kernel
theorem dLW_law_338 : decode cLW_law 338 = .ok (.aload_n 0, 1) := by decide +kernel
theorem dLW_law_339 : decode cLW_law 339 = .ok (.iload 4, 2) := by decide +kernel
theorem dLW_law_341 : decode cLW_law 341 = .ok (.iconst 3, 1) := by decide +kernel
theorem dLW_law_342 : decode cLW_law 342 = .ok (.iadd, 1) := by decide +kernel
theorem dLW_law_343 : decode cLW_law 343 = .ok (.iaload, 1) := by decide +kernel
theorem dLW_law_344 : decode cLW_law 344 = .ok (.invokevirtual 73, 3) := by decide +kernel
theorem dLW_law_347 : decode cLW_law 347 = .ok (.istore 6, 2) := by decide +kernel
theorem dLW_law_349 : decode cLW_law 349 = .ok (.aload_n 2, 1) := by decide +kernel
theorem dLW_law_350 : decode cLW_law 350 = .ok (.invokevirtual 64, 3) := by decide +kernel
theorem dLW_law_353 : decode cLW_law 353 = .ok (.iload 5, 2) := by decide +kernel
theorem dLW_law_355 : decode cLW_law 355 = .ok (.if_icmp .eq 5, 3) := by decide +kernel
theorem dLW_law_358 : decode cLW_law 358 = .ok (.iconst 0, 1) := by decide +kernel
theorem dLW_law_359 : decode cLW_law 359 = .ok (.ireturn, 1) := by decide +kernel
theorem dLW_law_360 : decode cLW_law 360 = .ok (.iload 5, 2) := by decide +kernel
theorem dLW_law_362 : decode cLW_law 362 = .ok (.ifCond .ne 15, 3) := by decide +kernel
theorem dLW_law_365 : decode cLW_law 365 = .ok (.aload_n 3, 1) := by decide +kernel
theorem dLW_law_366 : decode cLW_law 366 = .ok (.iconst 0, 1) := by decide +kernel
theorem dLW_law_367 : decode cLW_law 367 = .ok (.laload, 1) := by decide +kernel
theorem dLW_law_368 : decode cLW_law 368 = .ok (.iload 6, 2) := by decide +kernel
theorem dLW_law_370 : decode cLW_law 370 = .ok (.i2l, 1) := by decide +kernel
theorem dLW_law_371 : decode cLW_law 371 = .ok (.lcmp, 1) := by decide +kernel
theorem dLW_law_372 : decode cLW_law 372 = .ok (.ifCond .eq 5, 3) := by decide +kernel
theorem dLW_law_375 : decode cLW_law 375 = .ok (.iconst 0, 1) := by decide +kernel
theorem dLW_law_376 : decode cLW_law 376 = .ok (.ireturn, 1) := by decide +kernel
theorem dLW_law_377 : decode cLW_law 377 = .ok (.goto 614, 3) := by decide +kernel
theorem dLW_law_380 : decode cLW_law 380 = .ok (.aload_n 1, 1) := by decide +kernel
theorem dLW_law_381 : decode cLW_law 381 = .ok (.aload_n 0, 1) := by decide +kernel
theorem dLW_law_382 : decode cLW_law 382 = .ok (.iload 4, 2) := by decide +kernel
theorem dLW_law_384 : decode cLW_law 384 = .ok (.iconst 1, 1) := by decide +kernel
theorem dLW_law_385 : decode cLW_law 385 = .ok (.iadd, 1) := by decide +kernel
theorem dLW_law_386 : decode cLW_law 386 = .ok (.iaload, 1) := by decide +kernel
theorem dLW_law_387 : decode cLW_law 387 = .ok (.aload_n 0, 1) := by decide +kernel
theorem dLW_law_388 : decode cLW_law 388 = .ok (.iload 4, 2) := by decide +kernel
theorem dLW_law_390 : decode cLW_law 390 = .ok (.iconst 2, 1) := by decide +kernel
theorem dLW_law_391 : decode cLW_law 391 = .ok (.iadd, 1) := by decide +kernel
theorem dLW_law_392 : decode cLW_law 392 = .ok (.iaload, 1) := by decide +kernel
theorem dLW_law_393 : decode cLW_law 393 = .ok (.aload_n 0, 1) := by decide +kernel
theorem dLW_law_394 : decode cLW_law 394 = .ok (.iload 4, 2) := by decide +kernel
theorem dLW_law_396 : decode cLW_law 396 = .ok (.iconst 3, 1) := by decide +kernel
theorem dLW_law_397 : decode cLW_law 397 = .ok (.iadd, 1) := by decide +kernel
theorem dLW_law_398 : decode cLW_law 398 = .ok (.iaload, 1) := by decide +kernel
theorem dLW_law_399 : decode cLW_law 399 = .ok (.aload_n 3, 1) := by decide +kernel
theorem dLW_law_400 : decode cLW_law 400 = .ok (.invokestatic 74, 3) := by decide +kernel
theorem dLW_law_403 : decode cLW_law 403 = .ok (.istore 5, 2) := by decide +kernel
theorem dLW_law_405 : decode cLW_law 405 = .ok (.aload_n 2, 1) := by decide +kernel
theorem dLW_law_406 : decode cLW_law 406 = .ok (.aload_n 0, 1) := by decide +kernel
theorem dLW_law_407 : decode cLW_law 407 = .ok (.iload 4, 2) := by decide +kernel
theorem dLW_law_409 : decode cLW_law 409 = .ok (.iconst 1, 1) := by decide +kernel
theorem dLW_law_410 : decode cLW_law 410 = .ok (.iadd, 1) := by decide +kernel
theorem dLW_law_411 : decode cLW_law 411 = .ok (.iaload, 1) := by decide +kernel
theorem dLW_law_412 : decode cLW_law 412 = .ok (.aload_n 0, 1) := by decide +kernel
theorem dLW_law_413 : decode cLW_law 413 = .ok (.iload 4, 2) := by decide +kernel
theorem dLW_law_415 : decode cLW_law 415 = .ok (.iconst 2, 1) := by decide +kernel
theorem dLW_law_416 : decode cLW_law 416 = .ok (.iadd, 1) := by decide +kernel
theorem dLW_law_417 : decode cLW_law 417 = .ok (.iaload, 1) := by decide +kernel
theorem dLW_law_418 : decode cLW_law 418 = .ok (.aload_n 0, 1) := by decide +kernel
theorem dLW_law_419 : decode cLW_law 419 = .ok (.iload 4, 2) := by decide +kernel
theorem dLW_law_421 : decode cLW_law 421 = .ok (.iconst 3, 1) := by decide +kernel
theorem dLW_law_422 : decode cLW_law 422 = .ok (.iadd, 1) := by decide +kernel
theorem dLW_law_423 : decode cLW_law 423 = .ok (.iaload, 1) := by decide +kernel
theorem dLW_law_424 : decode cLW_law 424 = .ok (.invokevirtual 76, 3) := by decide +kernel
theorem dLW_law_427 : decode cLW_law 427 = .ok (.istore 6, 2) := by decide +kernel
theorem dLW_law_429 : decode cLW_law 429 = .ok (.aload_n 2, 1) := by decide +kernel
theorem dLW_law_430 : decode cLW_law 430 = .ok (.invokevirtual 64, 3) := by decide +kernel
theorem dLW_law_433 : decode cLW_law 433 = .ok (.iload 5, 2) := by decide +kernel
theorem dLW_law_435 : decode cLW_law 435 = .ok (.if_icmp .eq 5, 3) := by decide +kernel
theorem dLW_law_438 : decode cLW_law 438 = .ok (.iconst 0, 1) := by decide +kernel
theorem dLW_law_439 : decode cLW_law 439 = .ok (.ireturn, 1) := by decide +kernel
theorem dLW_law_440 : decode cLW_law 440 = .ok (.iload 5, 2) := by decide +kernel
theorem dLW_law_442 : decode cLW_law 442 = .ok (.ifCond .ne 15, 3) := by decide +kernel
theorem dLW_law_445 : decode cLW_law 445 = .ok (.aload_n 3, 1) := by decide +kernel
theorem dLW_law_446 : decode cLW_law 446 = .ok (.iconst 0, 1) := by decide +kernel
theorem dLW_law_447 : decode cLW_law 447 = .ok (.laload, 1) := by decide +kernel
theorem dLW_law_448 : decode cLW_law 448 = .ok (.iload 6, 2) := by decide +kernel
theorem dLW_law_450 : decode cLW_law 450 = .ok (.i2l, 1) := by decide +kernel
theorem dLW_law_451 : decode cLW_law 451 = .ok (.lcmp, 1) := by decide +kernel
theorem dLW_law_452 : decode cLW_law 452 = .ok (.ifCond .eq 5, 3) := by decide +kernel
theorem dLW_law_455 : decode cLW_law 455 = .ok (.iconst 0, 1) := by decide +kernel
theorem dLW_law_456 : decode cLW_law 456 = .ok (.ireturn, 1) := by decide +kernel
theorem dLW_law_457 : decode cLW_law 457 = .ok (.goto 534, 3) := by decide +kernel
theorem dLW_law_460 : decode cLW_law 460 = .ok (.aload_n 1, 1) := by decide +kernel
theorem dLW_law_461 : decode cLW_law 461 = .ok (.aload_n 0, 1) := by decide +kernel
theorem dLW_law_462 : decode cLW_law 462 = .ok (.iload 4, 2) := by decide +kernel
theorem dLW_law_464 : decode cLW_law 464 = .ok (.iconst 1, 1) := by decide +kernel
theorem dLW_law_465 : decode cLW_law 465 = .ok (.iadd, 1) := by decide +kernel
theorem dLW_law_466 : decode cLW_law 466 = .ok (.iaload, 1) := by decide +kernel
theorem dLW_law_467 : decode cLW_law 467 = .ok (.aload_n 0, 1) := by decide +kernel
theorem dLW_law_468 : decode cLW_law 468 = .ok (.iload 4, 2) := by decide +kernel
theorem dLW_law_470 : decode cLW_law 470 = .ok (.iconst 2, 1) := by decide +kernel
theorem dLW_law_471 : decode cLW_law 471 = .ok (.iadd, 1) := by decide +kernel
theorem dLW_law_472 : decode cLW_law 472 = .ok (.iaload, 1) := by decide +kernel
theorem dLW_law_473 : decode cLW_law 473 = .ok (.aload_n 0, 1) := by decide +kernel
theorem dLW_law_474 : decode cLW_law 474 = .ok (.iload 4, 2) := by decide +kernel
theorem dLW_law_476 : decode cLW_law 476 = .ok (.iconst 3, 1) := by decide +kernel
theorem dLW_law_477 : decode cLW_law 477 = .ok (.iadd, 1) := by decide +kernel
theorem dLW_law_478 : decode cLW_law 478 = .ok (.iaload, 1) := by decide +kernel
theorem dLW_law_479 : decode cLW_law 479 = .ok (.aload_n 0, 1) := by decide +kernel
theorem dLW_law_480 : decode cLW_law 480 = .ok (.iload 4, 2) := by decide +kernel
theorem dLW_law_482 : decode cLW_law 482 = .ok (.iconst 4, 1) := by decide +kernel
theorem dLW_law_483 : decode cLW_law 483 = .ok (.iadd, 1) := by decide +kernel
theorem dLW_law_484 : decode cLW_law 484 = .ok (.iaload, 1) := by decide +kernel
theorem dLW_law_485 : decode cLW_law 485 = .ok (.aload_n 3, 1) := by decide +kernel
theorem dLW_law_486 : decode cLW_law 486 = .ok (.invokestatic 77, 3) := by decide +kernel
theorem dLW_law_489 : decode cLW_law 489 = .ok (.istore 5, 2) := by decide +kernel
theorem dLW_law_491 : decode cLW_law 491 = .ok (.aload_n 2, 1) := by decide +kernel
theorem dLW_law_492 : decode cLW_law 492 = .ok (.aload_n 0, 1) := by decide +kernel
theorem dLW_law_493 : decode cLW_law 493 = .ok (.iload 4, 2) := by decide +kernel
theorem dLW_law_495 : decode cLW_law 495 = .ok (.iconst 1, 1) := by decide +kernel
theorem dLW_law_496 : decode cLW_law 496 = .ok (.iadd, 1) := by decide +kernel
theorem dLW_law_497 : decode cLW_law 497 = .ok (.iaload, 1) := by decide +kernel
theorem dLW_law_498 : decode cLW_law 498 = .ok (.aload_n 0, 1) := by decide +kernel
theorem dLW_law_499 : decode cLW_law 499 = .ok (.iload 4, 2) := by decide +kernel
theorem dLW_law_501 : decode cLW_law 501 = .ok (.iconst 2, 1) := by decide +kernel
theorem dLW_law_502 : decode cLW_law 502 = .ok (.iadd, 1) := by decide +kernel
theorem dLW_law_503 : decode cLW_law 503 = .ok (.iaload, 1) := by decide +kernel
theorem dLW_law_504 : decode cLW_law 504 = .ok (.aload_n 0, 1) := by decide +kernel
theorem dLW_law_505 : decode cLW_law 505 = .ok (.iload 4, 2) := by decide +kernel
theorem dLW_law_507 : decode cLW_law 507 = .ok (.iconst 3, 1) := by decide +kernel
theorem dLW_law_508 : decode cLW_law 508 = .ok (.iadd, 1) := by decide +kernel
theorem dLW_law_509 : decode cLW_law 509 = .ok (.iaload, 1) := by decide +kernel
theorem dLW_law_510 : decode cLW_law 510 = .ok (.aload_n 0, 1) := by decide +kernel
theorem dLW_law_511 : decode cLW_law 511 = .ok (.iload 4, 2) := by decide +kernel
theorem dLW_law_513 : decode cLW_law 513 = .ok (.iconst 4, 1) := by decide +kernel
theorem dLW_law_514 : decode cLW_law 514 = .ok (.iadd, 1) := by decide +kernel
theorem dLW_law_515 : decode cLW_law 515 = .ok (.iaload, 1) := by decide +kernel
theorem dLW_law_516 : decode cLW_law 516 = .ok (.invokevirtual 80, 3) := by decide +kernel
theorem dLW_law_519 : decode cLW_law 519 = .ok (.istore 6, 2) := by decide +kernel
theorem dLW_law_521 : decode cLW_law 521 = .ok (.aload_n 2, 1) := by decide +kernel
theorem dLW_law_522 : decode cLW_law 522 = .ok (.invokevirtual 64, 3) := by decide +kernel
theorem dLW_law_525 : decode cLW_law 525 = .ok (.iload 5, 2) := by decide +kernel
theorem dLW_law_527 : decode cLW_law 527 = .ok (.if_icmp .eq 5, 3) := by decide +kernel
theorem dLW_law_530 : decode cLW_law 530 = .ok (.iconst 0, 1) := by decide +kernel
theorem dLW_law_531 : decode cLW_law 531 = .ok (.ireturn, 1) := by decide +kernel
theorem dLW_law_532 : decode cLW_law 532 = .ok (.iload 5, 2) := by decide +kernel
theorem dLW_law_534 : decode cLW_law 534 = .ok (.ifCond .ne 15, 3) := by decide +kernel
theorem dLW_law_537 : decode cLW_law 537 = .ok (.aload_n 3, 1) := by decide +kernel
theorem dLW_law_538 : decode cLW_law 538 = .ok (.iconst 0, 1) := by decide +kernel
theorem dLW_law_539 : decode cLW_law 539 = .ok (.laload, 1) := by decide +kernel
theorem dLW_law_540 : decode cLW_law 540 = .ok (.iload 6, 2) := by decide +kernel
theorem dLW_law_542 : decode cLW_law 542 = .ok (.i2l, 1) := by decide +kernel
theorem dLW_law_543 : decode cLW_law 543 = .ok (.lcmp, 1) := by decide +kernel
theorem dLW_law_544 : decode cLW_law 544 = .ok (.ifCond .eq 5, 3) := by decide +kernel
theorem dLW_law_547 : decode cLW_law 547 = .ok (.iconst 0, 1) := by decide +kernel
theorem dLW_law_548 : decode cLW_law 548 = .ok (.ireturn, 1) := by decide +kernel
theorem dLW_law_549 : decode cLW_law 549 = .ok (.goto 442, 3) := by decide +kernel
theorem dLW_law_552 : decode cLW_law 552 = .ok (.aload_n 1, 1) := by decide +kernel
theorem dLW_law_553 : decode cLW_law 553 = .ok (.invokevirtual 81, 3) := by decide +kernel
end
section
theorem dLW_law_556 : decode cLW_law 556 = .ok (.aload_n 2, 1) := by decide +kernel
theorem dLW_law_557 : decode cLW_law 557 = .ok (.invokevirtual 84, 3) := by decide +kernel
theorem dLW_law_560 : decode cLW_law 560 = .ok (.if_icmp .eq 431, 3) := by decide +kernel
theorem dLW_law_563 : decode cLW_law 563 = .ok (.iconst 0, 1) := by decide +kernel
theorem dLW_law_564 : decode cLW_law 564 = .ok (.ireturn, 1) := by decide +kernel
theorem dLW_law_565 : decode cLW_law 565 = .ok (.aload_n 1, 1) := by decide +kernel
theorem dLW_law_566 : decode cLW_law 566 = .ok (.aload_n 0, 1) := by decide +kernel
theorem dLW_law_567 : decode cLW_law 567 = .ok (.iload 4, 2) := by decide +kernel
theorem dLW_law_569 : decode cLW_law 569 = .ok (.iconst 1, 1) := by decide +kernel
theorem dLW_law_570 : decode cLW_law 570 = .ok (.iadd, 1) := by decide +kernel
theorem dLW_law_571 : decode cLW_law 571 = .ok (.iaload, 1) := by decide +kernel
theorem dLW_law_572 : decode cLW_law 572 = .ok (.aload_n 0, 1) := by decide +kernel
theorem dLW_law_573 : decode cLW_law 573 = .ok (.iload 4, 2) := by decide +kernel
theorem dLW_law_575 : decode cLW_law 575 = .ok (.iconst 2, 1) := by decide +kernel
theorem dLW_law_576 : decode cLW_law 576 = .ok (.iadd, 1) := by decide +kernel
theorem dLW_law_577 : decode cLW_law 577 = .ok (.iaload, 1) := by decide +kernel
theorem dLW_law_578 : decode cLW_law 578 = .ok (.aload_n 3, 1) := by decide +kernel
theorem dLW_law_579 : decode cLW_law 579 = .ok (.invokestatic 85, 3) := by decide +kernel
theorem dLW_law_582 : decode cLW_law 582 = .ok (.istore 5, 2) := by decide +kernel
theorem dLW_law_584 : decode cLW_law 584 = .ok (.aload_n 2, 1) := by decide +kernel
theorem dLW_law_585 : decode cLW_law 585 = .ok (.aload_n 0, 1) := by decide +kernel
theorem dLW_law_586 : decode cLW_law 586 = .ok (.iload 4, 2) := by decide +kernel
theorem dLW_law_588 : decode cLW_law 588 = .ok (.iconst 1, 1) := by decide +kernel
theorem dLW_law_589 : decode cLW_law 589 = .ok (.iadd, 1) := by decide +kernel
theorem dLW_law_590 : decode cLW_law 590 = .ok (.iaload, 1) := by decide +kernel
theorem dLW_law_591 : decode cLW_law 591 = .ok (.aload_n 0, 1) := by decide +kernel
theorem dLW_law_592 : decode cLW_law 592 = .ok (.iload 4, 2) := by decide +kernel
theorem dLW_law_594 : decode cLW_law 594 = .ok (.iconst 2, 1) := by decide +kernel
theorem dLW_law_595 : decode cLW_law 595 = .ok (.iadd, 1) := by decide +kernel
theorem dLW_law_596 : decode cLW_law 596 = .ok (.iaload, 1) := by decide +kernel
theorem dLW_law_597 : decode cLW_law 597 = .ok (.invokevirtual 88, 3) := by decide +kernel
theorem dLW_law_600 : decode cLW_law 600 = .ok (.istore 6, 2) := by decide +kernel
theorem dLW_law_602 : decode cLW_law 602 = .ok (.aload_n 2, 1) := by decide +kernel
theorem dLW_law_603 : decode cLW_law 603 = .ok (.invokevirtual 64, 3) := by decide +kernel
theorem dLW_law_606 : decode cLW_law 606 = .ok (.iload 5, 2) := by decide +kernel
theorem dLW_law_608 : decode cLW_law 608 = .ok (.if_icmp .eq 5, 3) := by decide +kernel
theorem dLW_law_611 : decode cLW_law 611 = .ok (.iconst 0, 1) := by decide +kernel
theorem dLW_law_612 : decode cLW_law 612 = .ok (.ireturn, 1) := by decide +kernel
theorem dLW_law_613 : decode cLW_law 613 = .ok (.iload 5, 2) := by decide +kernel
theorem dLW_law_615 : decode cLW_law 615 = .ok (.ifCond .ne 15, 3) := by decide +kernel
theorem dLW_law_618 : decode cLW_law 618 = .ok (.aload_n 3, 1) := by decide +kernel
theorem dLW_law_619 : decode cLW_law 619 = .ok (.iconst 0, 1) := by decide +kernel
theorem dLW_law_620 : decode cLW_law 620 = .ok (.laload, 1) := by decide +kernel
theorem dLW_law_621 : decode cLW_law 621 = .ok (.iload 6, 2) := by decide +kernel
theorem dLW_law_623 : decode cLW_law 623 = .ok (.i2l, 1) := by decide +kernel
theorem dLW_law_624 : decode cLW_law 624 = .ok (.lcmp, 1) := by decide +kernel
theorem dLW_law_625 : decode cLW_law 625 = .ok (.ifCond .eq 5, 3) := by decide +kernel
theorem dLW_law_628 : decode cLW_law 628 = .ok (.iconst 0, 1) := by decide +kernel
theorem dLW_law_629 : decode cLW_law 629 = .ok (.ireturn, 1) := by decide +kernel
theorem dLW_law_630 : decode cLW_law 630 = .ok (.goto 361, 3) := by decide +kernel
theorem dLW_law_633 : decode cLW_law 633 = .ok (.aload_n 1, 1) := by decide +kernel
theorem dLW_law_634 : decode cLW_law 634 = .ok (.aload_n 0, 1) := by decide +kernel
theorem dLW_law_635 : decode cLW_law 635 = .ok (.iload 4, 2) := by decide +kernel
theorem dLW_law_637 : decode cLW_law 637 = .ok (.iconst 1, 1) := by decide +kernel
theorem dLW_law_638 : decode cLW_law 638 = .ok (.iadd, 1) := by decide +kernel
theorem dLW_law_639 : decode cLW_law 639 = .ok (.iaload, 1) := by decide +kernel
theorem dLW_law_640 : decode cLW_law 640 = .ok (.aload_n 3, 1) := by decide +kernel
theorem dLW_law_641 : decode cLW_law 641 = .ok (.invokestatic 89, 3) := by decide +kernel
theorem dLW_law_644 : decode cLW_law 644 = .ok (.istore 5, 2) := by decide +kernel
theorem dLW_law_646 : decode cLW_law 646 = .ok (.aload_n 2, 1) := by decide +kernel
theorem dLW_law_647 : decode cLW_law 647 = .ok (.aload_n 0, 1) := by decide +kernel
theorem dLW_law_648 : decode cLW_law 648 = .ok (.iload 4, 2) := by decide +kernel
theorem dLW_law_650 : decode cLW_law 650 = .ok (.iconst 1, 1) := by decide +kernel
theorem dLW_law_651 : decode cLW_law 651 = .ok (.iadd, 1) := by decide +kernel
theorem dLW_law_652 : decode cLW_law 652 = .ok (.iaload, 1) := by decide +kernel
theorem dLW_law_653 : decode cLW_law 653 = .ok (.invokevirtual 92, 3) := by decide +kernel
theorem dLW_law_656 : decode cLW_law 656 = .ok (.istore 6, 2) := by decide +kernel
theorem dLW_law_658 : decode cLW_law 658 = .ok (.aload_n 2, 1) := by decide +kernel
theorem dLW_law_659 : decode cLW_law 659 = .ok (.invokevirtual 64, 3) := by decide +kernel
theorem dLW_law_662 : decode cLW_law 662 = .ok (.iload 5, 2) := by decide +kernel
theorem dLW_law_664 : decode cLW_law 664 = .ok (.if_icmp .eq 5, 3) := by decide +kernel
theorem dLW_law_667 : decode cLW_law 667 = .ok (.iconst 0, 1) := by decide +kernel
theorem dLW_law_668 : decode cLW_law 668 = .ok (.ireturn, 1) := by decide +kernel
theorem dLW_law_669 : decode cLW_law 669 = .ok (.iload 5, 2) := by decide +kernel
theorem dLW_law_671 : decode cLW_law 671 = .ok (.ifCond .ne 15, 3) := by decide +kernel
theorem dLW_law_674 : decode cLW_law 674 = .ok (.aload_n 3, 1) := by decide +kernel
theorem dLW_law_675 : decode cLW_law 675 = .ok (.iconst 0, 1) := by decide +kernel
theorem dLW_law_676 : decode cLW_law 676 = .ok (.laload, 1) := by decide +kernel
theorem dLW_law_677 : decode cLW_law 677 = .ok (.iload 6, 2) := by decide +kernel
theorem dLW_law_679 : decode cLW_law 679 = .ok (.i2l, 1) := by decide +kernel
theorem dLW_law_680 : decode cLW_law 680 = .ok (.lcmp, 1) := by decide +kernel
theorem dLW_law_681 : decode cLW_law 681 = .ok (.ifCond .eq 5, 3) := by decide +kernel
theorem dLW_law_684 : decode cLW_law 684 = .ok (.iconst 0, 1) := by decide +kernel
theorem dLW_law_685 : decode cLW_law 685 = .ok (.ireturn, 1) := by decide +kernel
theorem dLW_law_686 : decode cLW_law 686 = .ok (.goto 305, 3) := by decide +kernel
theorem dLW_law_689 : decode cLW_law 689 = .ok (.aload_n 1, 1) := by decide +kernel
theorem dLW_law_690 : decode cLW_law 690 = .ok (.aload_n 0, 1) := by decide +kernel
theorem dLW_law_691 : decode cLW_law 691 = .ok (.iload 4, 2) := by decide +kernel
theorem dLW_law_693 : decode cLW_law 693 = .ok (.iconst 1, 1) := by decide +kernel
theorem dLW_law_694 : decode cLW_law 694 = .ok (.iadd, 1) := by decide +kernel
theorem dLW_law_695 : decode cLW_law 695 = .ok (.iaload, 1) := by decide +kernel
theorem dLW_law_696 : decode cLW_law 696 = .ok (.aload_n 0, 1) := by decide +kernel
theorem dLW_law_697 : decode cLW_law 697 = .ok (.iload 4, 2) := by decide +kernel
theorem dLW_law_699 : decode cLW_law 699 = .ok (.iconst 2, 1) := by decide +kernel
theorem dLW_law_700 : decode cLW_law 700 = .ok (.iadd, 1) := by decide +kernel
theorem dLW_law_701 : decode cLW_law 701 = .ok (.iaload, 1) := by decide +kernel
theorem dLW_law_702 : decode cLW_law 702 = .ok (.aload_n 3, 1) := by decide +kernel
theorem dLW_law_703 : decode cLW_law 703 = .ok (.invokestatic 93, 3) := by decide +kernel
theorem dLW_law_706 : decode cLW_law 706 = .ok (.istore 5, 2) := by decide +kernel
theorem dLW_law_708 : decode cLW_law 708 = .ok (.aload_n 2, 1) := by decide +kernel
theorem dLW_law_709 : decode cLW_law 709 = .ok (.aload_n 0, 1) := by decide +kernel
theorem dLW_law_710 : decode cLW_law 710 = .ok (.iload 4, 2) := by decide +kernel
theorem dLW_law_712 : decode cLW_law 712 = .ok (.iconst 1, 1) := by decide +kernel
theorem dLW_law_713 : decode cLW_law 713 = .ok (.iadd, 1) := by decide +kernel
theorem dLW_law_714 : decode cLW_law 714 = .ok (.iaload, 1) := by decide +kernel
theorem dLW_law_715 : decode cLW_law 715 = .ok (.aload_n 0, 1) := by decide +kernel
theorem dLW_law_716 : decode cLW_law 716 = .ok (.iload 4, 2) := by decide +kernel
theorem dLW_law_718 : decode cLW_law 718 = .ok (.iconst 2, 1) := by decide +kernel
theorem dLW_law_719 : decode cLW_law 719 = .ok (.iadd, 1) := by decide +kernel
theorem dLW_law_720 : decode cLW_law 720 = .ok (.iaload, 1) := by decide +kernel
theorem dLW_law_721 : decode cLW_law 721 = .ok (.invokevirtual 95, 3) := by decide +kernel
theorem dLW_law_724 : decode cLW_law 724 = .ok (.istore 6, 2) := by decide +kernel
theorem dLW_law_726 : decode cLW_law 726 = .ok (.aload_n 2, 1) := by decide +kernel
theorem dLW_law_727 : decode cLW_law 727 = .ok (.invokevirtual 64, 3) := by decide +kernel
theorem dLW_law_730 : decode cLW_law 730 = .ok (.iload 5, 2) := by decide +kernel
theorem dLW_law_732 : decode cLW_law 732 = .ok (.if_icmp .eq 5, 3) := by decide +kernel
theorem dLW_law_735 : decode cLW_law 735 = .ok (.iconst 0, 1) := by decide +kernel
theorem dLW_law_736 : decode cLW_law 736 = .ok (.ireturn, 1) := by decide +kernel
theorem dLW_law_737 : decode cLW_law 737 = .ok (.iload 5, 2) := by decide +kernel
theorem dLW_law_739 : decode cLW_law 739 = .ok (.ifCond .ne 15, 3) := by decide +kernel
theorem dLW_law_742 : decode cLW_law 742 = .ok (.aload_n 3, 1) := by decide +kernel
theorem dLW_law_743 : decode cLW_law 743 = .ok (.iconst 0, 1) := by decide +kernel
theorem dLW_law_744 : decode cLW_law 744 = .ok (.laload, 1) := by decide +kernel
theorem dLW_law_745 : decode cLW_law 745 = .ok (.iload 6, 2) := by decide +kernel
theorem dLW_law_747 : decode cLW_law 747 = .ok (.i2l, 1) := by decide +kernel
theorem dLW_law_748 : decode cLW_law 748 = .ok (.lcmp, 1) := by decide +kernel
theorem dLW_law_749 : decode cLW_law 749 = .ok (.ifCond .eq 5, 3) := by decide +kernel
theorem dLW_law_752 : decode cLW_law 752 = .ok (.iconst 0, 1) := by decide +kernel
theorem dLW_law_753 : decode cLW_law 753 = .ok (.ireturn, 1) := by decide +kernel
theorem dLW_law_754 : decode cLW_law 754 = .ok (.goto 237, 3) := by decide +kernel
theorem dLW_law_757 : decode cLW_law 757 = .ok (.aload_n 1, 1) := by decide +kernel
theorem dLW_law_758 : decode cLW_law 758 = .ok (.aload_n 0, 1) := by decide +kernel
theorem dLW_law_759 : decode cLW_law 759 = .ok (.iload 4, 2) := by decide +kernel
theorem dLW_law_761 : decode cLW_law 761 = .ok (.iconst 1, 1) := by decide +kernel
theorem dLW_law_762 : decode cLW_law 762 = .ok (.iadd, 1) := by decide +kernel
theorem dLW_law_763 : decode cLW_law 763 = .ok (.iaload, 1) := by decide +kernel
theorem dLW_law_764 : decode cLW_law 764 = .ok (.aload_n 0, 1) := by decide +kernel
theorem dLW_law_765 : decode cLW_law 765 = .ok (.iload 4, 2) := by decide +kernel
theorem dLW_law_767 : decode cLW_law 767 = .ok (.iconst 2, 1) := by decide +kernel
theorem dLW_law_768 : decode cLW_law 768 = .ok (.iadd, 1) := by decide +kernel
theorem dLW_law_769 : decode cLW_law 769 = .ok (.iaload, 1) := by decide +kernel
theorem dLW_law_770 : decode cLW_law 770 = .ok (.aload_n 0, 1) := by decide +kernel
theorem dLW_law_771 : decode cLW_law 771 = .ok (.iload 4, 2) := by decide +kernel
theorem dLW_law_773 : decode cLW_law 773 = .ok (.iconst 3, 1) := by decide +kernel
theorem dLW_law_774 : decode cLW_law 774 = .ok (.iadd, 1) := by decide +kernel
theorem dLW_law_775 : decode cLW_law 775 = .ok (.iaload, 1) := by decide +kernel
theorem dLW_law_776 : decode cLW_law 776 = .ok (.aload_n 3, 1) := by decide +kernel
theorem dLW_law_777 : decode cLW_law 777 = .ok (.invokestatic 96, 3) := by decide +kernel
theorem dLW_law_780 : decode cLW_law 780 = .ok (.istore 5, 2) := by decide +kernel
theorem dLW_law_782 : decode cLW_law 782 = .ok (.aload_n 2, 1) := by decide +kernel
theorem dLW_law_783 : decode cLW_law 783 = .ok (.aload_n 0, 1) := by decide +kernel
theorem dLW_law_784 : decode cLW_law 784 = .ok (.iload 4, 2) := by decide +kernel
theorem dLW_law_786 : decode cLW_law 786 = .ok (.iconst 1, 1) := by decide +kernel
theorem dLW_law_787 : decode cLW_law 787 = .ok (.iadd, 1) := by decide +kernel
theorem dLW_law_788 : decode cLW_law 788 = .ok (.iaload, 1) := by decide +kernel
theorem dLW_law_789 : decode cLW_law 789 = .ok (.aload_n 0, 1) := by decide +kernel
theorem dLW_law_790 : decode cLW_law 790 = .ok (.iload 4, 2) := by decide +kernel
theorem dLW_law_792 : decode cLW_law 792 = .ok (.iconst 2, 1) := by decide +kernel
theorem dLW_law_793 : decode cLW_law 793 = .ok (.iadd, 1) := by decide +kernel
theorem dLW_law_794 : decode cLW_law 794 = .ok (.iaload, 1) := by decide +kernel
theorem dLW_law_795 : decode cLW_law 795 = .ok (.aload_n 0, 1) := by decide +kernel
theorem dLW_law_796 : decode cLW_law 796 = .ok (.iload 4, 2) := by decide +kernel
theorem dLW_law_798 : decode cLW_law 798 = .ok (.iconst 3, 1) := by decide +kernel
theorem dLW_law_799 : decode cLW_law 799 = .ok (.iadd, 1) := by decide +kernel
theorem dLW_law_800 : decode cLW_law 800 = .ok (.iaload, 1) := by decide +kernel
theorem dLW_law_801 : decode cLW_law 801 = .ok (.invokevirtual 98, 3) := by decide +kernel
theorem dLW_law_804 : decode cLW_law 804 = .ok (.istore 6, 2) := by decide +kernel
theorem dLW_law_806 : decode cLW_law 806 = .ok (.aload_n 2, 1) := by decide +kernel
theorem dLW_law_807 : decode cLW_law 807 = .ok (.invokevirtual 64, 3) := by decide +kernel
theorem dLW_law_810 : decode cLW_law 810 = .ok (.iload 5, 2) := by decide +kernel
theorem dLW_law_812 : decode cLW_law 812 = .ok (.if_icmp .eq 5, 3) := by decide +kernel
theorem dLW_law_815 : decode cLW_law 815 = .ok (.iconst 0, 1) := by decide +kernel
theorem dLW_law_816 : decode cLW_law 816 = .ok (.ireturn, 1) := by decide +kernel
theorem dLW_law_817 : decode cLW_law 817 = .ok (.iload 5, 2) := by decide +kernel
theorem dLW_law_819 : decode cLW_law 819 = .ok (.ifCond .ne 15, 3) := by decide +kernel
theorem dLW_law_822 : decode cLW_law 822 = .ok (.aload_n 3, 1) := by decide +kernel
theorem dLW_law_823 : decode cLW_law 823 = .ok (.iconst 0, 1) := by decide +kernel
theorem dLW_law_824 : decode cLW_law 824 = .ok (.laload, 1) := by decide +kernel
theorem dLW_law_825 : decode cLW_law 825 = .ok (.iload 6, 2) := by decide +kernel
theorem dLW_law_827 : decode cLW_law 827 = .ok (.i2l, 1) := by decide +kernel
theorem dLW_law_828 : decode cLW_law 828 = .ok (.lcmp, 1) := by decide +kernel
theorem dLW_law_829 : decode cLW_law 829 = .ok (.ifCond .eq 5, 3) := by decide +kernel
theorem dLW_law_832 : decode cLW_law 832 = .ok (.iconst 0, 1) := by decide +kernel
theorem dLW_law_833 : decode cLW_law 833 = .ok (.ireturn, 1) := by decide +kernel
theorem dLW_law_834 : decode cLW_law 834 = .ok (.goto 157, 3) := by decide +kernel
theorem dLW_law_837 : decode cLW_law 837 = .ok (.aload_n 1, 1) := by decide +kernel
theorem dLW_law_838 : decode cLW_law 838 = .ok (.invokevirtual 99, 3) := by decide +kernel
theorem dLW_law_841 : decode cLW_law 841 = .ok (.aload_n 2, 1) := by decide +kernel
theorem dLW_law_842 : decode cLW_law 842 = .ok (.invokevirtual 102, 3) := by decide +kernel
theorem dLW_law_845 : decode cLW_law 845 = .ok (.if_icmp .eq 146, 3) := by decide +kernel
theorem dLW_law_848 : decode cLW_law 848 = .ok (.iconst 0, 1) := by decide +kernel
theorem dLW_law_849 : decode cLW_law 849 = .ok (.ireturn, 1) := by decide +kernel
theorem dLW_law_850 : decode cLW_law 850 = .ok (.aload_n 1, 1) := by decide +kernel
theorem dLW_law_851 : decode cLW_law 851 = .ok (.aload_n 0, 1) := by decide +kernel
theorem dLW_law_852 : decode cLW_law 852 = .ok (.iload 4, 2) := by decide +kernel
theorem dLW_law_854 : decode cLW_law 854 = .ok (.iconst 1, 1) := by decide +kernel
theorem dLW_law_855 : decode cLW_law 855 = .ok (.iadd, 1) := by decide +kernel
theorem dLW_law_856 : decode cLW_law 856 = .ok (.iaload, 1) := by decide +kernel
theorem dLW_law_857 : decode cLW_law 857 = .ok (.aload_n 0, 1) := by decide +kernel
theorem dLW_law_858 : decode cLW_law 858 = .ok (.iload 4, 2) := by decide +kernel
theorem dLW_law_860 : decode cLW_law 860 = .ok (.iconst 2, 1) := by decide +kernel
theorem dLW_law_861 : decode cLW_law 861 = .ok (.iadd, 1) := by decide +kernel
theorem dLW_law_862 : decode cLW_law 862 = .ok (.iaload, 1) := by decide +kernel
theorem dLW_law_863 : decode cLW_law 863 = .ok (.aload_n 0, 1) := by decide +kernel
theorem dLW_law_864 : decode cLW_law 864 = .ok (.iload 4, 2) := by decide +kernel
theorem dLW_law_866 : decode cLW_law 866 = .ok (.iconst 3, 1) := by decide +kernel
theorem dLW_law_867 : decode cLW_law 867 = .ok (.iadd, 1) := by decide +kernel
theorem dLW_law_868 : decode cLW_law 868 = .ok (.iaload, 1) := by decide +kernel
theorem dLW_law_869 : decode cLW_law 869 = .ok (.ifCond .eq 7, 3) := by decide +kernel
theorem dLW_law_872 : decode cLW_law 872 = .ok (.iconst 1, 1) := by decide +kernel
theorem dLW_law_873 : decode cLW_law 873 = .ok (.goto 4, 3) := by decide +kernel
theorem dLW_law_876 : decode cLW_law 876 = .ok (.iconst 0, 1) := by decide +kernel
theorem dLW_law_877 : decode cLW_law 877 = .ok (.aload_n 3, 1) := by decide +kernel
theorem dLW_law_878 : decode cLW_law 878 = .ok (.invokestatic 103, 3) := by decide +kernel
theorem dLW_law_881 : decode cLW_law 881 = .ok (.istore 5, 2) := by decide +kernel
theorem dLW_law_883 : decode cLW_law 883 = .ok (.aload_n 2, 1) := by decide +kernel
theorem dLW_law_884 : decode cLW_law 884 = .ok (.aload_n 0, 1) := by decide +kernel
theorem dLW_law_885 : decode cLW_law 885 = .ok (.iload 4, 2) := by decide +kernel
theorem dLW_law_887 : decode cLW_law 887 = .ok (.iconst 1, 1) := by decide +kernel
theorem dLW_law_888 : decode cLW_law 888 = .ok (.iadd, 1) := by decide +kernel
theorem dLW_law_889 : decode cLW_law 889 = .ok (.iaload, 1) := by decide +kernel
theorem dLW_law_890 : decode cLW_law 890 = .ok (.aload_n 0, 1) := by decide +kernel
theorem dLW_law_891 : decode cLW_law 891 = .ok (.iload 4, 2) := by decide +kernel
theorem dLW_law_893 : decode cLW_law 893 = .ok (.iconst 2, 1) := by decide +kernel
theorem dLW_law_894 : decode cLW_law 894 = .ok (.iadd, 1) := by decide +kernel
theorem dLW_law_895 : decode cLW_law 895 = .ok (.iaload, 1) := by decide +kernel
theorem dLW_law_896 : decode cLW_law 896 = .ok (.aload_n 0, 1) := by decide +kernel
theorem dLW_law_897 : decode cLW_law 897 = .ok (.iload 4, 2) := by decide +kernel
theorem dLW_law_899 : decode cLW_law 899 = .ok (.iconst 3, 1) := by decide +kernel
theorem dLW_law_900 : decode cLW_law 900 = .ok (.iadd, 1) := by decide +kernel
theorem dLW_law_901 : decode cLW_law 901 = .ok (.iaload, 1) := by decide +kernel
theorem dLW_law_902 : decode cLW_law 902 = .ok (.ifCond .eq 7, 3) := by decide +kernel
theorem dLW_law_905 : decode cLW_law 905 = .ok (.iconst 1, 1) := by decide +kernel
theorem dLW_law_906 : decode cLW_law 906 = .ok (.goto 4, 3) := by decide +kernel
theorem dLW_law_909 : decode cLW_law 909 = .ok (.iconst 0, 1) := by decide +kernel
theorem dLW_law_910 : decode cLW_law 910 = .ok (.invokevirtual 106, 3) := by decide +kernel
theorem dLW_law_913 : decode cLW_law 913 = .ok (.istore 6, 2) := by decide +kernel
theorem dLW_law_915 : decode cLW_law 915 = .ok (.aload_n 2, 1) := by decide +kernel
theorem dLW_law_916 : decode cLW_law 916 = .ok (.invokevirtual 64, 3) := by decide +kernel
theorem dLW_law_919 : decode cLW_law 919 = .ok (.iload 5, 2) := by decide +kernel
theorem dLW_law_921 : decode cLW_law 921 = .ok (.if_icmp .eq 5, 3) := by decide +kernel
theorem dLW_law_924 : decode cLW_law 924 = .ok (.iconst 0, 1) := by decide +kernel
theorem dLW_law_925 : decode cLW_law 925 = .ok (.ireturn, 1) := by decide +kernel
theorem dLW_law_926 : decode cLW_law 926 = .ok (.iload 5, 2) := by decide +kernel
theorem dLW_law_928 : decode cLW_law 928 = .ok (.ifCond .ne 22, 3) := by decide +kernel
theorem dLW_law_931 : decode cLW_law 931 = .ok (.aload_n 3, 1) := by decide +kernel
theorem dLW_law_932 : decode cLW_law 932 = .ok (.iconst 0, 1) := by decide +kernel
theorem dLW_law_933 : decode cLW_law 933 = .ok (.laload, 1) := by decide +kernel
theorem dLW_law_934 : decode cLW_law 934 = .ok (.iload 6, 2) := by decide +kernel
theorem dLW_law_936 : decode cLW_law 936 = .ok (.ifCond .eq 7, 3) := by decide +kernel
theorem dLW_law_939 : decode cLW_law 939 = .ok (.lconst 1, 1) := by decide +kernel
theorem dLW_law_940 : decode cLW_law 940 = .ok (.goto 4, 3) := by decide +kernel
theorem dLW_law_943 : decode cLW_law 943 = .ok (.lconst 0, 1) := by decide +kernel
theorem dLW_law_944 : decode cLW_law 944 = .ok (.lcmp, 1) := by decide +kernel
theorem dLW_law_945 : decode cLW_law 945 = .ok (.ifCond .eq 5, 3) := by decide +kernel
theorem dLW_law_948 : decode cLW_law 948 = .ok (.iconst 0, 1) := by decide +kernel
theorem dLW_law_949 : decode cLW_law 949 = .ok (.ireturn, 1) := by decide +kernel
theorem dLW_law_950 : decode cLW_law 950 = .ok (.goto 41, 3) := by decide +kernel
theorem dLW_law_953 : decode cLW_law 953 = .ok (.aload_n 1, 1) := by decide +kernel
theorem dLW_law_954 : decode cLW_law 954 = .ok (.invokevirtual 107, 3) := by decide +kernel
theorem dLW_law_957 : decode cLW_law 957 = .ok (.aload_n 2, 1) := by decide +kernel
theorem dLW_law_958 : decode cLW_law 958 = .ok (.invokevirtual 110, 3) := by decide +kernel
theorem dLW_law_961 : decode cLW_law 961 = .ok (.if_icmp .eq 30, 3) := by decide +kernel
theorem dLW_law_964 : decode cLW_law 964 = .ok (.iconst 0, 1) := by decide +kernel
theorem dLW_law_965 : decode cLW_law 965 = .ok (.ireturn, 1) := by decide +kernel
theorem dLW_law_966 : decode cLW_law 966 = .ok (.aload_n 1, 1) := by decide +kernel
theorem dLW_law_967 : decode cLW_law 967 = .ok (.aload_n 0, 1) := by decide +kernel
theorem dLW_law_968 : decode cLW_law 968 = .ok (.iload 4, 2) := by decide +kernel
theorem dLW_law_970 : decode cLW_law 970 = .ok (.iconst 1, 1) := by decide +kernel
theorem dLW_law_971 : decode cLW_law 971 = .ok (.iadd, 1) := by decide +kernel
theorem dLW_law_972 : decode cLW_law 972 = .ok (.iaload, 1) := by decide +kernel
theorem dLW_law_973 : decode cLW_law 973 = .ok (.invokevirtual 111, 3) := by decide +kernel
theorem dLW_law_976 : decode cLW_law 976 = .ok (.aload_n 2, 1) := by decide +kernel
theorem dLW_law_977 : decode cLW_law 977 = .ok (.aload_n 0, 1) := by decide +kernel
theorem dLW_law_978 : decode cLW_law 978 = .ok (.iload 4, 2) := by decide +kernel
theorem dLW_law_980 : decode cLW_law 980 = .ok (.iconst 1, 1) := by decide +kernel
theorem dLW_law_981 : decode cLW_law 981 = .ok (.iadd, 1) := by decide +kernel
theorem dLW_law_982 : decode cLW_law 982 = .ok (.iaload, 1) := by decide +kernel
theorem dLW_law_983 : decode cLW_law 983 = .ok (.invokevirtual 114, 3) := by decide +kernel
theorem dLW_law_986 : decode cLW_law 986 = .ok (.if_icmp .eq 5, 3) := by decide +kernel
theorem dLW_law_989 : decode cLW_law 989 = .ok (.iconst 0, 1) := by decide +kernel
theorem dLW_law_990 : decode cLW_law 990 = .ok (.ireturn, 1) := by decide +kernel
theorem dLW_law_991 : decode cLW_law 991 = .ok (.iinc 4 5, 3) := by decide +kernel
theorem dLW_law_994 : decode cLW_law 994 = .ok (.goto (-941), 3) := by decide +kernel
theorem dLW_law_997 : decode cLW_law 997 = .ok (.iconst 1, 1) := by decide +kernel
theorem dLW_law_998 : decode cLW_law 998 = .ok (.ireturn, 1) := by decide +kernel
end
section
/-- the class's world -/
def cW (cI cZ : ClassId) (a : Nat → Nat) (W D_ r sz : Int) (co ro ho ac al sd lf sq hs rs ts rt_ hc li re ow tc cp ck wa qp qt qs lo sb : Int → Int) (lc cn ch sk : Int) : va_W := [
  (a 0, .inr (0, [.int (iZ W), .int (iZ D_), .int (iZ r), .ref (a 1), .ref (a 14), .ref (a 21), .ref (a 29)])),
  (a 1, .inr (2, [.int (iZ W), .int (iZ D_), .int (iZ (W * D_)), .ref (a 2), .ref (a 3), .ref (a 4), .ref (a 5), .ref (a 6), .ref (a 7)])),
  (a 2, aI cI (W * D_) co),
  (a 3, aI cI (W * D_) ro),
  (a 4, aI cI (W * D_) hs),
  (a 5, aI cI (W * D_) rs),
  (a 6, aI cI (W * D_) ts),
  (a 7, aI cI D_ rt_),
  (a 8, .inr (3, [.int (iZ sz), .ref (a 9), .ref (a 10), .ref (a 11), .ref (a 12), .ref (a 13), .int (iZ (2 * r + 1))])),
  (a 9, aI cI sz ac),
  (a 10, aI cI sz al),
  (a 11, aI cI sz sd),
  (a 12, aI cI sz lf),
  (a 13, aI cI ((2 * r + 1) * (2 * r + 1)) sq),
  (a 14, .inr (1, [.ref (a 8), .ref (a 15), .ref (a 18), .int (iZ (r * 1048576)), .ref (a 19), .ref (a 16), .ref (a 17), .int (iZ lc), .ref (a 1), .int (iZ r), .int (iZ (W + 2 * r)), .ref (a 20)])),
  (a 15, aI cI (W * D_) ho),
  (a 16, aI cI (W * D_) hc),
  (a 17, aI cI (W * D_) li),
  (a 18, aI cI ((W + 2 * r) * (D_ + 2 * r)) re),
  (a 19, aI cI ((W + 2 * r) * (D_ + 2 * r)) ow),
  (a 20, aI cI ((W + 2 * r) * (D_ + 2 * r)) tc),
  (a 21, .inr (4, [.ref (a 22), .ref (a 23), .int (iZ cn), .ref (a 24), .ref (a 1), .ref (a 14), .ref (a 25), .ref (a 26), .ref (a 27), .int (iZ ch), .int (iZ sk), .ref (a 28)])),
  (a 22, aI cI 4 cp),
  (a 23, aI cI 4 ck),
  (a 24, aI cZ (W * D_) wa),
  (a 25, aI cI 8 qp),
  (a 26, aI cI 8 qt),
  (a 27, aI cI 8 qs),
  (a 28, aI cI (W * D_) lo),
  (a 29, aI cZ (W * D_) sb)]
section CL
variable {p : Program} {l : Launch} {e : Env} {s : State} {m : MethodId} {args : Array Value} {below : List Frame} {meth : Method} {c : Code} {Q : State → Prop} {D : va_G} {cI cZ cJ : ClassId} {SL : List zS} {A : Nat → Prop} {a : Nat → Nat} {W D_ r sz : Int} {co ro ho ac al sd lf sq : Int → Int} {hs rs ts rt_ hc li re ow tc cp ck wa qp qt qs lo sb : Int → Int} {lc cn ch sk : Int}
abbrev rmBA_placeIndex : Room := { frames := 0, cells := 0, slots := 0, locals := 0 }
set_option maxHeartbeats 4000000 in
set_option maxRecDepth 100000 in
theorem c_placeIndex {w0 : va_W} {b q0 : Nat} {fs : List Value} {x y r pA : Int} (he : w0[q0]? = some (b, .inr (1, fs))) (hr : fs[9]? = some (.int (iZ r))) (hp : fs[10]? = some (.int (iZ pA))) : CI l D vwCl cI cZ cJ SL yBA_placeIndex wsBA_placeIndex rmBA_placeIndex [.ref b, .int (iZ x), .int (iZ y)] w0 (fun z w1 => z = (y + r) * pA + (x + r) ∧ w1 = w0) := by
  refine tt_startI (by decide) rfl (Nat.le_of_ble_eq_true rfl) ?_
  intro p e s m args below meth c hnm F
  refine tt_iload_n F 2 rfl rfl dBA_placeIndex_0 ?_
  refine tt_aload_n F 0 rfl rfl dBA_placeIndex_1 ?_
  refine tt_get F inBA q0 he rfl 9 (by decide) we210 hr dBA_placeIndex_2 ?_
  refine tt_iadd F dBA_placeIndex_5 ?_
  refine tt_aload_n F 0 rfl rfl dBA_placeIndex_6 ?_
  refine tt_get F inBA q0 he rfl 10 (by decide) we211 hp dBA_placeIndex_7 ?_
  refine tt_imul F dBA_placeIndex_10 ?_
  refine tt_iload_n F 1 rfl rfl dBA_placeIndex_11 ?_
  refine tt_iadd F dBA_placeIndex_12 ?_
  refine tt_aload_n F 0 rfl rfl dBA_placeIndex_13 ?_
  refine tt_get F inBA q0 he rfl 9 (by decide) we210 hr dBA_placeIndex_14 ?_
  refine tt_iadd F dBA_placeIndex_17 ?_
  exact tt_iret F rfl (Nat.le_of_ble_eq_true rfl) (Nat.le_of_ble_eq_true rfl) dBA_placeIndex_18 ⟨by omega, rfl⟩
abbrev rmBA_restAt : Room := { frames := 1, cells := 0, slots := 0, locals := 22 }
set_option maxHeartbeats 4000000 in
set_option maxRecDepth 100000 in
theorem c_restAt {x y : Int} (hG : GE W D_ r sz co ro ho ac al sd lf sq) (hx : -r ≤ x ∧ x < W + r) (hy : -r ≤ y ∧ y < D_ + r) : CI l D vwCl cI cZ cJ SL yBA_restAt wsBA_restAt rmBA_restAt [.ref (a 14), .int (iZ x), .int (iZ y)] (cW cI cZ a W D_ r sz co ro ho ac al sd lf sq hs rs ts rt_ hc li re ow tc cp ck wa qp qt qs lo sb lc cn ch sk) (fun z w1 => z = re ((y + r) * (W + 2 * r) + (x + r)) ∧ w1 = (cW cI cZ a W D_ r sz co ro ho ac al sd lf sq hs rs ts rt_ hc li re ow tc cp ck wa qp qt qs lo sb lc cn ch sk)) := by
  refine tt_startI (by decide) rfl (Nat.le_of_ble_eq_true rfl) ?_
  intro p e s m args below meth c hnm F
  obtain ⟨⟨hW1, hW2, hD1, hD2, hr1, hr2⟩, hGp, hGs, hGk, hGx, hGi, hGm, hGq⟩ := id hG
  have hWD := wd_b hW1 hW2 hD1 hD2
  have hPL := pl_b hW1 hW2 hD1 hD2 hr1 hr2
  have hSQ := sd_b hr1 hr2
  have hpi := pl_in (W := W) (D_ := D_) (r := r) hx.1 hx.2 hy.1 hy.2
  refine tt_aload_n F 0 rfl rfl dBA_restAt_0 ?_
  refine tt_get F inBA 14 rfl rfl 2 (by decide) we193 rfl dBA_restAt_1 ?_
  refine tt_aload_n F 0 rfl rfl dBA_restAt_4 ?_
  refine tt_iload_n F 1 rfl rfl dBA_restAt_5 ?_
  refine tt_iload_n F 2 rfl rfl dBA_restAt_6 ?_
  refine tt_cIV0 F (fun h => h) (As := [.int (iZ x), .int (iZ y)]) 14 rfl rfl (c_placeIndex (q0 := 14) (x := x) (y := y) (r := r) (pA := W + 2 * r) (w0 := (cW cI cZ a W D_ r sz co ro ho ac al sd lf sq hs rs ts rt_ hc li re ow tc cp ck wa qp qt qs lo sb lc cn ch sk)) rfl rfl rfl) (cwV 2 F.1.2.2.2.2 (gw_V wd185 wd187 wd0 wd48 wd188) rfl rfl rfl (by decide +kernel) ⟨(Nat.le_of_ble_eq_true rfl), (Nat.le_of_ble_eq_true rfl)⟩) rfl rfl rfl (Nat.le_of_ble_eq_true rfl) ⟨(Nat.le_of_ble_eq_true rfl), (Nat.le_of_ble_eq_true rfl)⟩ dBA_restAt_7 (fun z7 w1 hp => ?_)
  obtain ⟨hz7, rfl⟩ := hp
  refine tt_iald F 18 rfl (by omega) (by omega) (by omega) dBA_restAt_10 ?_
  refine tt_name (fun x10 hx10 => ?_)
  exact tt_iret F rfl (Nat.le_of_ble_eq_true rfl) (Nat.le_of_ble_eq_true rfl) dBA_restAt_11 ⟨by rw [hx10, hz7], rfl⟩
abbrev rmBA_countTouched : Room := { frames := 1, cells := 0, slots := 0, locals := 22 }
set_option maxHeartbeats 4000000 in
set_option maxRecDepth 100000 in
theorem c_countTouched {x y : Int} (hG : GE W D_ r sz co ro ho ac al sd lf sq) (hx : -r ≤ x ∧ x < W + r) (hy : -r ≤ y ∧ y < D_ + r) : CI l D vwCl cI cZ cJ SL yBA_countTouched wsBA_countTouched rmBA_countTouched [.ref (a 14), .int (iZ x), .int (iZ y)] (cW cI cZ a W D_ r sz co ro ho ac al sd lf sq hs rs ts rt_ hc li re ow tc cp ck wa qp qt qs lo sb lc cn ch sk) (fun z w1 => z = tc ((y + r) * (W + 2 * r) + (x + r)) ∧ w1 = (cW cI cZ a W D_ r sz co ro ho ac al sd lf sq hs rs ts rt_ hc li re ow tc cp ck wa qp qt qs lo sb lc cn ch sk)) := by
  refine tt_startI (by decide) rfl (Nat.le_of_ble_eq_true rfl) ?_
  intro p e s m args below meth c hnm F
  obtain ⟨⟨hW1, hW2, hD1, hD2, hr1, hr2⟩, hGp, hGs, hGk, hGx, hGi, hGm, hGq⟩ := id hG
  have hWD := wd_b hW1 hW2 hD1 hD2
  have hPL := pl_b hW1 hW2 hD1 hD2 hr1 hr2
  have hSQ := sd_b hr1 hr2
  have hpi := pl_in (W := W) (D_ := D_) (r := r) hx.1 hx.2 hy.1 hy.2
  refine tt_aload_n F 0 rfl rfl dBA_countTouched_0 ?_
  refine tt_get F inBA 14 rfl rfl 11 (by decide) we212 rfl dBA_countTouched_1 ?_
  refine tt_aload_n F 0 rfl rfl dBA_countTouched_4 ?_
  refine tt_iload_n F 1 rfl rfl dBA_countTouched_5 ?_
  refine tt_iload_n F 2 rfl rfl dBA_countTouched_6 ?_
  refine tt_cIV0 F (fun h => h) (As := [.int (iZ x), .int (iZ y)]) 14 rfl rfl (c_placeIndex (q0 := 14) (x := x) (y := y) (r := r) (pA := W + 2 * r) (w0 := (cW cI cZ a W D_ r sz co ro ho ac al sd lf sq hs rs ts rt_ hc li re ow tc cp ck wa qp qt qs lo sb lc cn ch sk)) rfl rfl rfl) (cwV 2 F.1.2.2.2.2 (gw_V wd185 wd187 wd0 wd48 wd188) rfl rfl rfl (by decide +kernel) ⟨(Nat.le_of_ble_eq_true rfl), (Nat.le_of_ble_eq_true rfl)⟩) rfl rfl rfl (Nat.le_of_ble_eq_true rfl) ⟨(Nat.le_of_ble_eq_true rfl), (Nat.le_of_ble_eq_true rfl)⟩ dBA_countTouched_7 (fun z7 w1 hp => ?_)
  obtain ⟨hz7, rfl⟩ := hp
  refine tt_iald F 20 rfl (by omega) (by omega) (by omega) dBA_countTouched_10 ?_
  refine tt_name (fun x10 hx10 => ?_)
  exact tt_iret F rfl (Nat.le_of_ble_eq_true rfl) (Nat.le_of_ble_eq_true rfl) dBA_countTouched_11 ⟨by rw [hx10, hz7], rfl⟩
abbrev rmBA_isSafe : Room := { frames := 0, cells := 0, slots := 0, locals := 0 }
set_option maxHeartbeats 4000000 in
set_option maxRecDepth 100000 in
theorem c_isSafe {q : Int} (hG : GE W D_ r sz co ro ho ac al sd lf sq) (hq : 0 ≤ q ∧ q < W * D_) (hc0 : ir (hc q)) : CI l D vwCl cI cZ cJ SL yBA_isSafe wsBA_isSafe rmBA_isSafe [.ref (a 14), .int (iZ q)] (cW cI cZ a W D_ r sz co ro ho ac al sd lf sq hs rs ts rt_ hc li re ow tc cp ck wa qp qt qs lo sb lc cn ch sk) (fun z w1 => z = bi (decide (hc q = 0)) ∧ w1 = (cW cI cZ a W D_ r sz co ro ho ac al sd lf sq hs rs ts rt_ hc li re ow tc cp ck wa qp qt qs lo sb lc cn ch sk)) := by
  refine tt_startI (by decide) rfl (Nat.le_of_ble_eq_true rfl) ?_
  intro p e s m args below meth c hnm F
  obtain ⟨⟨hW1, hW2, hD1, hD2, hr1, hr2⟩, hGp, hGs, hGk, hGx, hGi, hGm, hGq⟩ := id hG
  have hWD := wd_b hW1 hW2 hD1 hD2
  have hPL := pl_b hW1 hW2 hD1 hD2 hr1 hr2
  have hSQ := sd_b hr1 hr2
  refine tt_aload_n F 0 rfl rfl dBA_isSafe_0 ?_
  refine tt_get F inBA 14 rfl rfl 5 (by decide) we200 rfl dBA_isSafe_1 ?_
  refine tt_iload_n F 1 rfl rfl dBA_isSafe_4 ?_
  refine tt_iald F 16 rfl (by omega) (by omega) (by omega) dBA_isSafe_5 ?_
  refine tt_name (fun x5 hx5 => ?_)
  refine tt_if_ne F 13 (by rw [hx5]; exact hc0) dBA_isSafe_6 (by decide) (fun c6 => ?_) (fun c6 => ?_)
  · skip
    refine tt_iconst F dBA_isSafe_13 ?_
    exact tt_zret F rfl (by omega) (Nat.le_of_ble_eq_true rfl) (Nat.le_of_ble_eq_true rfl) dBA_isSafe_14 ⟨by simp [bi]; omega, rfl⟩
  · skip
    refine tt_iconst F dBA_isSafe_9 ?_
    refine tt_goto F 14 (by decide) dBA_isSafe_10 ?_
    exact tt_zret F rfl (by omega) (Nat.le_of_ble_eq_true rfl) (Nat.le_of_ble_eq_true rfl) dBA_isSafe_14 ⟨by simp [bi]; omega, rfl⟩
abbrev rmHO_tipWith : Room := { frames := 0, cells := 0, slots := 0, locals := 0 }
set_option maxHeartbeats 4000000 in
set_option maxRecDepth 100000 in
theorem c_tipWith {q v : Int} (hG : GE W D_ r sz co ro ho ac al sd lf sq) (hq : 0 ≤ q ∧ q < W * D_) : CI l D vwCl cI cZ cJ SL yHO_tipWith wsHO_tipWith rmHO_tipWith [.ref (a 1), .int (iZ q), .int (iZ v)] (cW cI cZ a W D_ r sz co ro ho ac al sd lf sq hs rs ts rt_ hc li re ow tc cp ck wa qp qt qs lo sb lc cn ch sk) (fun z w1 => z = (hs q + v) * 1048576 ∧ w1 = (cW cI cZ a W D_ r sz co ro ho ac al sd lf sq hs rs ts rt_ hc li re ow tc cp ck wa qp qt qs lo sb lc cn ch sk)) := by
  refine tt_startI (by decide) rfl (Nat.le_of_ble_eq_true rfl) ?_
  intro p e s m args below meth c hnm F
  obtain ⟨⟨hW1, hW2, hD1, hD2, hr1, hr2⟩, hGp, hGs, hGk, hGx, hGi, hGm, hGq⟩ := id hG
  have hWD := wd_b hW1 hW2 hD1 hD2
  have hPL := pl_b hW1 hW2 hD1 hD2 hr1 hr2
  have hSQ := sd_b hr1 hr2
  refine tt_aload_n F 0 rfl rfl dHO_tipWith_0 ?_
  refine tt_get F inHO 1 rfl rfl 5 (by decide) we100 rfl dHO_tipWith_1 ?_
  refine tt_iload_n F 1 rfl rfl dHO_tipWith_4 ?_
  refine tt_iald F 4 rfl (by omega) (by omega) (by omega) dHO_tipWith_5 ?_
  refine tt_name (fun x5 hx5 => ?_)
  refine tt_iload_n F 2 rfl rfl dHO_tipWith_6 ?_
  refine tt_iadd F dHO_tipWith_7 ?_
  refine tt_ldc F (n := 1048576) we346 dHO_tipWith_8 ?_
  refine tt_imul F dHO_tipWith_10 ?_
  exact tt_iret F rfl (Nat.le_of_ble_eq_true rfl) (Nat.le_of_ble_eq_true rfl) dHO_tipWith_11 ⟨by rw [hx5], rfl⟩
abbrev rmHO_setTip : Room := { frames := 1, cells := 0, slots := 0, locals := 14 }
set_option maxHeartbeats 4000000 in
set_option maxRecDepth 100000 in
theorem setTip_loop {row : Int} (F : FX p s m args meth c cHO_setTip 6 none wsHO_setTip RHO D vwCl cI cZ cJ SL A) (hG : GE W D_ r sz co ro ho ac al sd lf sq) (hts : ∀ p, 0 ≤ p → p < W * D_ → 0 ≤ ts p ∧ ts p ≤ 262144000) (hrow : 0 ≤ row ∧ row < D_)
    (k : ∀ (each top : Int), 0 ≤ top ∧ top ≤ 262144000 → (∀ p, row * W ≤ p → p < row * W + W → ts p ≤ top) → TT p l e rmHO_setTip s m args below meth c D vwCl A 6 False Q 61 [(0, .ref (a 1)), (3, .int (iZ row)), (4, .int (iZ top)), (5, .int (iZ each))] [] (cW cI cZ a W D_ r sz co ro ho ac al sd lf sq hs rs ts rt_ hc li re ow tc cp ck wa qp qt qs lo sb lc cn ch sk) 0 0) :
    ∀ (n : Nat) (each top : Int), (row * W + W - each).toNat < n → row * W ≤ each ∧ each ≤ row * W + W → 0 ≤ top ∧ top ≤ 262144000 → (∀ p, row * W ≤ p → p < each → ts p ≤ top) → TT p l e rmHO_setTip s m args below meth c D vwCl A 6 False Q 25 [(0, .ref (a 1)), (3, .int (iZ row)), (4, .int (iZ top)), (5, .int (iZ each))] [] (cW cI cZ a W D_ r sz co ro ho ac al sd lf sq hs rs ts rt_ hc li re ow tc cp ck wa qp qt qs lo sb lc cn ch sk) 0 0 := by
  intro n
  induction n with
  | zero => intro each top hn; omega
  | succ n ih =>
    intro each top hn he ht I
    obtain ⟨⟨hW1, hW2, hD1, hD2, hr1, hr2⟩, hGp, hGs, hGk, hGx, hGi, hGm, hGq⟩ := id hG
    have hWD := wd_b hW1 hW2 hD1 hD2
    have hPL := pl_b hW1 hW2 hD1 hD2 hr1 hr2
    have hSQ := sd_b hr1 hr2
    have hm0 := Int.mul_nonneg (a := row) (b := W) (by omega) (by omega)
    have hm1 := (ix_b (i := W - 1) (j := row) (W := W) (D := D_) (by omega) (by omega) (by omega) (by omega)).2
    refine tt_iload F 3 rfl dHO_setTip_25 ?_
    refine tt_iload_n F 1 rfl rfl dHO_setTip_27 ?_
    refine tt_aload_n F 0 rfl rfl dHO_setTip_28 ?_
    refine tt_get F inHO 1 rfl rfl 0 (by decide) we84 rfl dHO_setTip_29 ?_
    refine tt_imul F dHO_setTip_32 ?_
    refine tt_aload_n F 0 rfl rfl dHO_setTip_33 ?_
    refine tt_get F inHO 1 rfl rfl 0 (by decide) we84 rfl dHO_setTip_34 ?_
    refine tt_iadd F dHO_setTip_37 ?_
    refine tt_icmp_ge F 61 ⟨by omega, by omega⟩ ⟨by omega, by omega⟩ dHO_setTip_38 (by decide) (fun c38 => ?_) (fun c38 => ?_)
    · skip
      refine tt_sub [0, 1, 2, 3] rfl ?_
      exact k each top ht (fun p h1 h2 => I p h1 (by omega))
    · skip
      have hte := hts each (by omega) (by omega)
      refine tt_iload F 2 rfl dHO_setTip_41 ?_
      refine tt_aload_n F 0 rfl rfl dHO_setTip_43 ?_
      refine tt_get F inHO 1 rfl rfl 7 (by decide) we104 rfl dHO_setTip_44 ?_
      refine tt_iload F 3 rfl dHO_setTip_47 ?_
      refine tt_iald F 6 rfl (by omega) (by omega) (by omega) dHO_setTip_49 ?_
      refine tt_name (fun x49 hx49 => ?_)
      refine tt_mmax F ⟨by omega, by omega⟩ ⟨by omega, by omega⟩ we465 we76 we46 we77 (Nat.le_of_ble_eq_true rfl) (Nat.le_of_ble_eq_true rfl) (Nat.le_of_ble_eq_true rfl) (Nat.le_of_ble_eq_true rfl) dHO_setTip_50 ?_
      refine tt_name (fun x50 hx50 => ?_)
      have hbx50 : (top < x49 ∧ x50 = x49) ∨ (x49 ≤ top ∧ x50 = top) := by rw [hx50]; split <;> omega
      refine tt_istore F [(4, .int (iZ x50)), (0, .ref (a 1)), (3, .int (iZ row)), (5, .int (iZ each))] (by decide) rfl dHO_setTip_53 ?_
      refine tt_iinc F 3 [(5, .int (iZ (each + 1))), (4, .int (iZ x50)), (0, .ref (a 1)), (3, .int (iZ row))] rfl (by decide) rfl dHO_setTip_55 ?_
      refine tt_goto F 25 (by decide) dHO_setTip_58 ?_
      refine tt_sub [2, 3, 1, 0] rfl ?_
      exact ih (each + 1) x50 (by omega) (by omega) (by omega) (fun p h1 h2 => if e : p = each then (by rw [e, ← hx49]; omega) else (by have := I p h1 (by omega); omega))
set_option maxHeartbeats 4000000 in
set_option maxRecDepth 100000 in
theorem c_setTip {q t : Int} (hG : GE W D_ r sz co ro ho ac al sd lf sq) (hq : 0 ≤ q ∧ q < W * D_) (ht : 0 ≤ t ∧ t ≤ 262144000) (hts : ∀ p, 0 ≤ p → p < W * D_ → 0 ≤ ts p ∧ ts p ≤ 262144000) : CV l D vwCl cI cZ cJ SL yHO_setTip wsHO_setTip rmHO_setTip [.ref (a 1), .int (iZ q), .int (iZ t)] (cW cI cZ a W D_ r sz co ro ho ac al sd lf sq hs rs ts rt_ hc li re ow tc cp ck wa qp qt qs lo sb lc cn ch sk) (fun w1 => ∃ top, w1 = (cW cI cZ a W D_ r sz co ro ho ac al sd lf sq hs rs (zu ts q t) (zu rt_ (ro q) top) hc li re ow tc cp ck wa qp qt qs lo sb lc cn ch sk) ∧ (0 ≤ top ∧ top ≤ 262144000) ∧ ∀ p, ro q * W ≤ p → p < ro q * W + W → zu ts q t p ≤ top) := by
  refine tt_startV (by decide) rfl (Nat.le_of_ble_eq_true rfl) ?_
  intro p e s m args below meth c hnm F
  obtain ⟨⟨hW1, hW2, hD1, hD2, hr1, hr2⟩, hGp, hGs, hGk, hGx, hGi, hGm, hGq⟩ := id hG
  have hWD := wd_b hW1 hW2 hD1 hD2
  have hPL := pl_b hW1 hW2 hD1 hD2 hr1 hr2
  have hSQ := sd_b hr1 hr2
  have hqo := ix_of (p := q) (W := W) (D := D_) (by omega) hq.1 hq.2
  have hgp := hGp (q % W) (q / W) hqo.1 hqo.2.1 hqo.2.2.1 hqo.2.2.2.1
  rw [hqo.2.2.2.2] at hgp
  refine tt_aload_n F 0 rfl rfl dHO_setTip_0 ?_
  refine tt_get F inHO 1 rfl rfl 7 (by decide) we104 rfl dHO_setTip_1 ?_
  refine tt_iload_n F 1 rfl rfl dHO_setTip_4 ?_
  refine tt_iload_n F 2 rfl rfl dHO_setTip_5 ?_
  refine tt_iast F (fun h => h) 6 rfl (by omega) (by omega) (by omega) dHO_setTip_6 ?_
  refine tt_aload_n F 0 rfl rfl dHO_setTip_7 ?_
  refine tt_get F inHO 1 rfl rfl 4 (by decide) we96 rfl dHO_setTip_8 ?_
  refine tt_iload_n F 1 rfl rfl dHO_setTip_11 ?_
  refine tt_iald F 3 rfl (by omega) (by omega) (by omega) dHO_setTip_12 ?_
  refine tt_name (fun x12 hx12 => ?_)
  refine tt_istore_n F [(3, .int (iZ x12)), (0, .ref (a 1)), (1, .int (iZ q)), (2, .int (iZ t))] rfl (by decide) rfl dHO_setTip_13 ?_
  refine tt_iconst F dHO_setTip_14 ?_
  refine tt_istore F [(4, .int (iZ 0)), (3, .int (iZ x12)), (0, .ref (a 1)), (1, .int (iZ q)), (2, .int (iZ t))] (by decide) rfl dHO_setTip_15 ?_
  refine tt_iload_n F 1 rfl rfl dHO_setTip_17 ?_
  refine tt_aload_n F 2 rfl rfl dHO_setTip_18 ?_
  refine tt_get F inHO 1 rfl rfl 0 (by decide) we84 rfl dHO_setTip_19 ?_
  refine tt_imul F dHO_setTip_22 ?_
  refine tt_name (fun each0 heach0 => ?_)
  refine tt_istore F [(5, .int (iZ each0)), (4, .int (iZ 0)), (3, .int (iZ x12)), (0, .ref (a 1)), (1, .int (iZ q)), (2, .int (iZ t))] (by decide) rfl dHO_setTip_23 ?_
  refine tt_sub [3, 2, 1, 0] rfl ?_
  refine setTip_loop (ts := zu ts q t) F hG (fun p h1 h2 => if e : p = q then (by rw [e, zu_s]; exact ht) else (by rw [zu_n _ _ e]; exact hts p h1 h2)) (row := x12) (by omega) (fun each top ht2 I => ?_) (W.toNat + 1) _ 0 (by omega) (by omega) (by omega) (fun p h1 h2 => by omega)
  refine tt_aload_n F 0 rfl rfl dHO_setTip_61 ?_
  refine tt_get F inHO 1 rfl rfl 8 (by decide) we107 rfl dHO_setTip_62 ?_
  refine tt_iload_n F 1 rfl rfl dHO_setTip_65 ?_
  refine tt_iload F 2 rfl dHO_setTip_66 ?_
  refine tt_iast F (fun h => h) 7 rfl (by omega) (by omega) (by omega) dHO_setTip_68 ?_
  exact tt_vret F rfl (Nat.le_of_ble_eq_true rfl) (Nat.le_of_ble_eq_true rfl) dHO_setTip_69 ⟨top, by rw [hx12]; rfl, ht2, by rw [← hx12]; exact I⟩
abbrev rmBA_climb : Room := { frames := 0, cells := 0, slots := 0, locals := 0 }
theorem climb_low {W r x y fx lx nx row rest tv : Int} {tq : Int → Int} (hr1 : 1 ≤ r) (hr2 : r ≤ 10) (hX : 0 ≤ fx ∧ fx ≤ lx ∧ lx < W ∧ x - r ≤ fx ∧ lx ≤ x + r) (hX1 : ∀ q, 0 ≤ q → q < fx → q - x < -r) (hX2 : ∀ q, lx < q → q < W → r < q - x) (hN1 : ∀ q, fx ≤ q → q ≤ lx → (0 ≤ nx - x ∧ nx - x ≤ q - x) ∨ (q - x ≤ nx - x ∧ nx - x ≤ 0)) (ht : ∀ q, 0 ≤ q → q < W → tq (row * W + q) ≤ tv ∧ tq (row * W + q) ≤ 262144000) (hrest : 0 ≤ rest) (h : tv + lift r (nx - x) (row - y) < rest) : ∀ q, 0 ≤ q → q < W → rch W r x y tq (row * W + q) < rest := by
  intro q q0 q1
  have h1 := ht q q0 q1
  rw [rch_ij q0 q1]
  by_cases c1 : q < fx
  · rw [lift_out hr1 (Or.inl (hX1 q q0 c1))]; omega
  · by_cases c2 : lx < q
    · rw [lift_out hr1 (Or.inr (Or.inl (hX2 q c2 q1)))]; omega
    · have h2 := sq_le (hN1 q (by omega) (by omega))
      have h3 := lift_le (r := r) (dx := nx - x) (dx' := q - x) (dy := row - y) (dy' := row - y) hr1 hr2 (by omega)
      omega
theorem cl_b {W r x y at_ N z rest cnt : Int} {tq li : Int → Int} (hr1 : 1 ≤ r) (hr2 : r ≤ 10) (hq : ∀ p, 0 ≤ p → p < N → tq p ≤ 262144000) (ha : at_ ≤ 1000000000) (I : clI W r x y at_ N tq z rest cnt li) : rest ≤ 1000000000 := by
  rcases I.2.1 with q | ⟨p, q1, q2, q3⟩
  · omega
  · rw [rch] at q3
    have h1 := hq p q1 q2
    have h2 := lift_b (r := r) (dx := p % W - x) (dy := p / W - y) hr1 hr2
    omega
theorem climb_in {b q0 : Nat} {tq : Int → Int} {x y at_ fx lx fy ly nx : Int} {row cel : Int} (F : FX p s m args meth c cBA_climb 22 (some .int) wsBA_climb RBA D vwCl cI cZ cJ SL A) (hG : GE W D_ r sz co ro ho ac al sd lf sq) (he : ∀ (li : Int → Int) (lc : Int), (cW cI cZ a W D_ r sz co ro ho ac al sd lf sq hs rs ts rt_ hc li re ow tc cp ck wa qp qt qs lo sb lc cn ch sk)[q0]? = some (b, aI cI (W * D_) tq)) (hq : ∀ p, 0 ≤ p → p < W * D_ → 0 ≤ tq p ∧ tq p ≤ ts p ∧ ts p ≤ 262144000) (hrt : ∀ i j, 0 ≤ i → i < W → 0 ≤ j → j < D_ → ts (j * W + i) ≤ rt_ j ∧ rt_ j ≤ 262144000) (hx : -r ≤ x ∧ x < W + r) (hy : -r ≤ y ∧ y < D_ + r) (ha : 0 ≤ at_ ∧ at_ ≤ 1000000000) (hX : 0 ≤ fx ∧ fx ≤ lx ∧ lx < W ∧ x - r ≤ fx ∧ lx ≤ x + r) (hX1 : ∀ q, 0 ≤ q → q < fx → q - x < -r) (hX2 : ∀ q, lx < q → q < W → r < q - x) (hY : 0 ≤ fy ∧ fy ≤ ly ∧ ly < D_ ∧ y - r ≤ fy ∧ ly ≤ y + r) (hY1 : ∀ q, 0 ≤ q → q < fy → q - y < -r) (hY2 : ∀ q, ly < q → q < D_ → r < q - y) (hN : fx ≤ nx ∧ nx ≤ lx) (hN1 : ∀ q, fx ≤ q → q ≤ lx → (0 ≤ nx - x ∧ nx - x ≤ q - x) ∨ (q - x ≤ nx - x ∧ nx - x ≤ 0)) (hrow : fy ≤ row ∧ row ≤ ly) (hcel : cel = (row - y + r) * (2 * r + 1) + r - x)
    (k : ∀ (rest cnt : Int) (li : Int → Int), clI W r x y at_ (W * D_) tq ((row + 1) * W) rest cnt li → TT p l e rmBA_climb s m args below meth c D vwCl A 22 False Q 373 [(0, .ref (a 14)), (1, .ref b), (5, .ref (a 13)), (6, .ref (a 7)), (7, .int (iZ W)), (8, .int (iZ (2 * r + 1))), (9, .int (iZ lx)), (10, .int (iZ ly)), (11, .int (iZ fx)), (13, .int (iZ nx)), (16, .int (iZ cel)), (17, .int (iZ rest)), (18, .int (iZ cnt)), (19, .int (iZ row))] [] (cW cI cZ a W D_ r sz co ro ho ac al sd lf sq hs rs ts rt_ hc li re ow tc cp ck wa qp qt qs lo sb lc cn ch sk) 0 0) :
    ∀ (n : Nat) (col rest cnt : Int) (li : Int → Int), (lx + 1 - col).toNat < n → fx ≤ col → col ≤ lx + 1 → clI W r x y at_ (W * D_) tq (row * W + col) rest cnt li → TT p l e rmBA_climb s m args below meth c D vwCl A 22 False Q 300 [(0, .ref (a 14)), (1, .ref b), (5, .ref (a 13)), (6, .ref (a 7)), (7, .int (iZ W)), (8, .int (iZ (2 * r + 1))), (9, .int (iZ lx)), (10, .int (iZ ly)), (11, .int (iZ fx)), (13, .int (iZ nx)), (16, .int (iZ cel)), (17, .int (iZ rest)), (18, .int (iZ cnt)), (19, .int (iZ row)), (20, .int (iZ col))] [] (cW cI cZ a W D_ r sz co ro ho ac al sd lf sq hs rs ts rt_ hc li re ow tc cp ck wa qp qt qs lo sb lc cn ch sk) 0 0 := by
  intro n
  induction n with
  | zero => intro col rest cnt li hn; omega
  | succ n ih =>
    intro col rest cnt li hn hc1 hc2 I
    obtain ⟨⟨hW1, hW2, hD1, hD2, hr1, hr2⟩, hGp, hGs, hGk, hGx, hGi, hGm, hGq⟩ := id hG
    have hWD := wd_b hW1 hW2 hD1 hD2
    have hSQ := sd_b hr1 hr2
    have hrest : 0 ≤ rest := by have := I.1; omega
    have hrest2 := cl_b hr1 hr2 (fun p h1 h2 => by have := hq p h1 h2; omega) ha.2 I
    have hm0 := Int.mul_nonneg (a := row) (b := W) (by omega) (by omega)
    have hcnt := lsts_b (by omega) I.2.2.2
    refine tt_iload F 14 rfl dBA_climb_300 ?_
    refine tt_iload F 6 rfl dBA_climb_302 ?_
    refine tt_icmp_gt F 373 ⟨by omega, by omega⟩ ⟨by omega, by omega⟩ dBA_climb_304 (by decide) (fun c304 => ?_) (fun c304 => ?_)
    · skip
      refine tt_sub [0, 1, 2, 3, 4, 5, 6, 7, 8, 9, 10, 11, 12, 13] rfl ?_
      refine k rest cnt li ?_
      rw [rw_s]
      exact cl_row (by omega) (by omega) (Int.le_refl W) (by omega) (fun q q0 q1 => by have h1 := hq (row * W + q) (ix_b (i := q) (j := row) (W := W) (D := D_) (by omega) (by omega) (by omega) (by omega)).1 (ix_b (i := q) (j := row) (W := W) (D := D_) (by omega) (by omega) (by omega) (by omega)).2; have h2 := rch_far (W := W) (x := x) (y := y) (i := q) (j := row) (tq := tq) hr1 (by omega) (by omega) (by omega) (Or.inr (Or.inl (hX2 q (by omega) (by omega)))); have := I.1; omega) I
    · skip
      have hq1 := hq (row * W + col) (ix_b (i := col) (j := row) (W := W) (D := D_) (by omega) (by omega) (by omega) (by omega)).1 (ix_b (i := col) (j := row) (W := W) (D := D_) (by omega) (by omega) (by omega) (by omega)).2
      have hix := ix_b (i := col) (j := row) (W := W) (D := D_) (by omega) (by omega) (by omega) (by omega)
      have his := ix_b (i := col - x + r) (j := row - y + r) (W := 2 * r + 1) (D := 2 * r + 1) (by omega) (by omega) (by omega) (by omega)
      have hsq := hGq (col - x) (row - y) (by omega) (by omega) (by omega) (by omega)
      have hsx : cel + col = (row - y + r) * (2 * r + 1) + (col - x + r) := by omega
      have hlb := lift_b (dx := col - x) (dy := row - y) hr1 hr2
      refine tt_aload_n F 1 rfl rfl dBA_climb_307 ?_
      refine tt_iload F 13 rfl dBA_climb_308 ?_
      refine tt_iload F 4 rfl dBA_climb_310 ?_
      refine tt_imul F dBA_climb_312 ?_
      refine tt_iload F 14 rfl dBA_climb_313 ?_
      refine tt_iadd F dBA_climb_315 ?_
      refine tt_iald F q0 (he _ _) (by omega) (by omega) (by omega) dBA_climb_316 ?_
      refine tt_name (fun tv htv => ?_)
      refine tt_aload F 2 rfl dBA_climb_317 ?_
      refine tt_iload F 10 rfl dBA_climb_319 ?_
      refine tt_iload F 14 rfl dBA_climb_321 ?_
      refine tt_iadd F dBA_climb_323 ?_
      refine tt_iald F 13 rfl (by omega) (by omega) (by omega) dBA_climb_324 ?_
      refine tt_name (fun sv hsv => ?_)
      have hsv2 : sv = lift r (col - x) (row - y) := by rw [hsv, hsx]; exact hsq
      refine tt_iadd F dBA_climb_325 ?_
      refine tt_name (fun rv hrv => ?_)
      have hrv2 : rch W r x y tq (row * W + col) = rv := by rw [rch_ij (by omega) (by omega), hrv, htv, hsv2]
      have hz0 : 0 ≤ row * W + col := by omega
      refine tt_istore F [(21, .int (iZ rv)), (0, .ref (a 14)), (1, .ref b), (5, .ref (a 13)), (6, .ref (a 7)), (7, .int (iZ W)), (8, .int (iZ (2 * r + 1))), (9, .int (iZ lx)), (10, .int (iZ ly)), (11, .int (iZ fx)), (13, .int (iZ nx)), (16, .int (iZ cel)), (17, .int (iZ rest)), (18, .int (iZ cnt)), (19, .int (iZ row)), (20, .int (iZ col))] (by decide) rfl dBA_climb_326 ?_
      refine tt_iload F 0 rfl dBA_climb_328 ?_
      refine tt_iload F 12 rfl dBA_climb_330 ?_
      refine tt_icmp_le F 342 ⟨by omega, by omega⟩ ⟨by omega, by omega⟩ dBA_climb_332 (by decide) (fun c332 => ?_) (fun c332 => ?_)
      · skip
        refine tt_iload F 0 rfl dBA_climb_342 ?_
        refine tt_iload F 12 rfl dBA_climb_344 ?_
        refine tt_icmp_ne F 367 ⟨by omega, by omega⟩ ⟨by omega, by omega⟩ dBA_climb_346 (by decide) (fun c346 => ?_) (fun c346 => ?_)
        · skip
          refine tt_iinc F 15 [(20, .int (iZ (col + 1))), (21, .int (iZ rv)), (0, .ref (a 14)), (1, .ref b), (5, .ref (a 13)), (6, .ref (a 7)), (7, .int (iZ W)), (8, .int (iZ (2 * r + 1))), (9, .int (iZ lx)), (10, .int (iZ ly)), (11, .int (iZ fx)), (13, .int (iZ nx)), (16, .int (iZ cel)), (17, .int (iZ rest)), (18, .int (iZ cnt)), (19, .int (iZ row))] rfl (by decide) rfl dBA_climb_367 ?_
          refine tt_goto F 300 (by decide) dBA_climb_370 ?_
          refine tt_sub [2, 3, 4, 5, 6, 7, 8, 9, 10, 11, 12, 13, 14, 15, 0] rfl ?_
          exact ih (col + 1) rest cnt li (by omega) (by omega) (by omega) (by have I2 := cl_lt hz0 (by omega) I; rw [Int.add_assoc] at I2; exact I2)
        · skip
          refine tt_aload_n F 1 rfl rfl dBA_climb_349 ?_
          refine tt_get F inBA 14 rfl rfl 6 (by decide) we203 rfl dBA_climb_350 ?_
          refine tt_iload F 13 rfl dBA_climb_353 ?_
          refine tt_iload F 14 rfl dBA_climb_355 ?_
          refine tt_iload F 5 rfl dBA_climb_357 ?_
          refine tt_imul F dBA_climb_359 ?_
          refine tt_iload F 15 rfl dBA_climb_360 ?_
          refine tt_iadd F dBA_climb_362 ?_
          refine tt_iast F (fun h => h) 17 rfl (by omega) (by omega) (by omega) dBA_climb_363 ?_
          refine tt_iinc F 13 [(18, .int (iZ (cnt + 1))), (21, .int (iZ rv)), (0, .ref (a 14)), (1, .ref b), (5, .ref (a 13)), (6, .ref (a 7)), (7, .int (iZ W)), (8, .int (iZ (2 * r + 1))), (9, .int (iZ lx)), (10, .int (iZ ly)), (11, .int (iZ fx)), (13, .int (iZ nx)), (16, .int (iZ cel)), (17, .int (iZ rest)), (19, .int (iZ row)), (20, .int (iZ col))] rfl (by decide) rfl dBA_climb_364 ?_
          refine tt_iinc F 15 [(20, .int (iZ (col + 1))), (18, .int (iZ (cnt + 1))), (21, .int (iZ rv)), (0, .ref (a 14)), (1, .ref b), (5, .ref (a 13)), (6, .ref (a 7)), (7, .int (iZ W)), (8, .int (iZ (2 * r + 1))), (9, .int (iZ lx)), (10, .int (iZ ly)), (11, .int (iZ fx)), (13, .int (iZ nx)), (16, .int (iZ cel)), (17, .int (iZ rest)), (19, .int (iZ row))] rfl (by decide) rfl dBA_climb_367 ?_
          refine tt_goto F 300 (by decide) dBA_climb_370 ?_
          refine tt_sub [3, 4, 5, 6, 7, 8, 9, 10, 11, 12, 13, 14, 1, 15, 0] rfl ?_
          exact ih (col + 1) rest (cnt + 1) (zu li cnt ((row * W) + col)) (by omega) (by omega) (by omega) (by have I2 := cl_eq hz0 (by omega) I; rw [Int.add_assoc] at I2; exact I2)
      · skip
        refine tt_iload F 0 rfl dBA_climb_335 ?_
        refine tt_istore F [(17, .int (iZ rv)), (21, .int (iZ rv)), (0, .ref (a 14)), (1, .ref b), (5, .ref (a 13)), (6, .ref (a 7)), (7, .int (iZ W)), (8, .int (iZ (2 * r + 1))), (9, .int (iZ lx)), (10, .int (iZ ly)), (11, .int (iZ fx)), (13, .int (iZ nx)), (16, .int (iZ cel)), (18, .int (iZ cnt)), (19, .int (iZ row)), (20, .int (iZ col))] (by decide) rfl dBA_climb_337 ?_
        refine tt_iconst F dBA_climb_339 ?_
        refine tt_istore F [(18, .int (iZ 0)), (17, .int (iZ rv)), (21, .int (iZ rv)), (0, .ref (a 14)), (1, .ref b), (5, .ref (a 13)), (6, .ref (a 7)), (7, .int (iZ W)), (8, .int (iZ (2 * r + 1))), (9, .int (iZ lx)), (10, .int (iZ ly)), (11, .int (iZ fx)), (13, .int (iZ nx)), (16, .int (iZ cel)), (19, .int (iZ row)), (20, .int (iZ col))] (by decide) rfl dBA_climb_340 ?_
        refine tt_iload F 2 rfl dBA_climb_342 ?_
        refine tt_iload F 1 rfl dBA_climb_344 ?_
        refine tt_icmp_ne F 367 ⟨by omega, by omega⟩ ⟨by omega, by omega⟩ dBA_climb_346 (by decide) (fun c346 => ?_) (fun c346 => ?_)
        · skip
          refine tt_iinc F 15 [(20, .int (iZ (col + 1))), (18, .int (iZ 0)), (17, .int (iZ rv)), (21, .int (iZ rv)), (0, .ref (a 14)), (1, .ref b), (5, .ref (a 13)), (6, .ref (a 7)), (7, .int (iZ W)), (8, .int (iZ (2 * r + 1))), (9, .int (iZ lx)), (10, .int (iZ ly)), (11, .int (iZ fx)), (13, .int (iZ nx)), (16, .int (iZ cel)), (19, .int (iZ row))] rfl (by decide) rfl dBA_climb_367 ?_
          refine tt_goto F 300 (by decide) dBA_climb_370 ?_
          refine tt_sub [4, 5, 6, 7, 8, 9, 10, 11, 12, 13, 14, 2, 1, 15, 0] rfl ?_
          exact ih (col + 1) rv 0 li (by omega) (by omega) (by omega) (absurd rfl c346)
        · skip
          refine tt_aload_n F 3 rfl rfl dBA_climb_349 ?_
          refine tt_get F inBA 14 rfl rfl 6 (by decide) we203 rfl dBA_climb_350 ?_
          refine tt_iload F 0 rfl dBA_climb_353 ?_
          refine tt_iload F 14 rfl dBA_climb_355 ?_
          refine tt_iload F 7 rfl dBA_climb_357 ?_
          refine tt_imul F dBA_climb_359 ?_
          refine tt_iload F 15 rfl dBA_climb_360 ?_
          refine tt_iadd F dBA_climb_362 ?_
          refine tt_iast F (fun h => h) 17 rfl (by omega) (by omega) (by omega) dBA_climb_363 ?_
          refine tt_iinc F 0 [(18, .int (iZ (0 + 1))), (17, .int (iZ rv)), (21, .int (iZ rv)), (0, .ref (a 14)), (1, .ref b), (5, .ref (a 13)), (6, .ref (a 7)), (7, .int (iZ W)), (8, .int (iZ (2 * r + 1))), (9, .int (iZ lx)), (10, .int (iZ ly)), (11, .int (iZ fx)), (13, .int (iZ nx)), (16, .int (iZ cel)), (19, .int (iZ row)), (20, .int (iZ col))] rfl (by decide) rfl dBA_climb_364 ?_
          refine tt_iinc F 15 [(20, .int (iZ (col + 1))), (18, .int (iZ (0 + 1))), (17, .int (iZ rv)), (21, .int (iZ rv)), (0, .ref (a 14)), (1, .ref b), (5, .ref (a 13)), (6, .ref (a 7)), (7, .int (iZ W)), (8, .int (iZ (2 * r + 1))), (9, .int (iZ lx)), (10, .int (iZ ly)), (11, .int (iZ fx)), (13, .int (iZ nx)), (16, .int (iZ cel)), (19, .int (iZ row))] rfl (by decide) rfl dBA_climb_367 ?_
          refine tt_goto F 300 (by decide) dBA_climb_370 ?_
          refine tt_sub [4, 5, 6, 7, 8, 9, 10, 11, 12, 13, 14, 2, 1, 15, 0] rfl ?_
          exact ih (col + 1) rv (0 + 1) (zu li 0 ((row * W) + col)) (by omega) (by omega) (by omega) (by have I2 := cl_gt hz0 (by omega) (by omega) I; rw [hrv2, Int.add_assoc] at I2; exact I2)
theorem climb_out {b q0 : Nat} {tq : Int → Int} {x y at_ fx lx fy ly nx : Int} (F : FX p s m args meth c cBA_climb 22 (some .int) wsBA_climb RBA D vwCl cI cZ cJ SL A) (hG : GE W D_ r sz co ro ho ac al sd lf sq) (he : ∀ (li : Int → Int) (lc : Int), (cW cI cZ a W D_ r sz co ro ho ac al sd lf sq hs rs ts rt_ hc li re ow tc cp ck wa qp qt qs lo sb lc cn ch sk)[q0]? = some (b, aI cI (W * D_) tq)) (hq : ∀ p, 0 ≤ p → p < W * D_ → 0 ≤ tq p ∧ tq p ≤ ts p ∧ ts p ≤ 262144000) (hrt : ∀ i j, 0 ≤ i → i < W → 0 ≤ j → j < D_ → ts (j * W + i) ≤ rt_ j ∧ rt_ j ≤ 262144000) (hx : -r ≤ x ∧ x < W + r) (hy : -r ≤ y ∧ y < D_ + r) (ha : 0 ≤ at_ ∧ at_ ≤ 1000000000) (hX : 0 ≤ fx ∧ fx ≤ lx ∧ lx < W ∧ x - r ≤ fx ∧ lx ≤ x + r) (hX1 : ∀ q, 0 ≤ q → q < fx → q - x < -r) (hX2 : ∀ q, lx < q → q < W → r < q - x) (hY : 0 ≤ fy ∧ fy ≤ ly ∧ ly < D_ ∧ y - r ≤ fy ∧ ly ≤ y + r) (hY1 : ∀ q, 0 ≤ q → q < fy → q - y < -r) (hY2 : ∀ q, ly < q → q < D_ → r < q - y) (hN : fx ≤ nx ∧ nx ≤ lx) (hN1 : ∀ q, fx ≤ q → q ≤ lx → (0 ≤ nx - x ∧ nx - x ≤ q - x) ∨ (q - x ≤ nx - x ∧ nx - x ≤ 0))
    (k : ∀ (cel row rest cnt : Int) (li : Int → Int), clI W r x y at_ (W * D_) tq (W * D_) rest cnt li → TT p l e rmBA_climb s m args below meth c D vwCl A 22 False Q 386 [(0, .ref (a 14)), (1, .ref b), (5, .ref (a 13)), (6, .ref (a 7)), (7, .int (iZ W)), (8, .int (iZ (2 * r + 1))), (9, .int (iZ lx)), (10, .int (iZ ly)), (11, .int (iZ fx)), (13, .int (iZ nx)), (16, .int (iZ cel)), (17, .int (iZ rest)), (18, .int (iZ cnt)), (19, .int (iZ row))] [] (cW cI cZ a W D_ r sz co ro ho ac al sd lf sq hs rs ts rt_ hc li re ow tc cp ck wa qp qt qs lo sb lc cn ch sk) 0 0) :
    ∀ (n : Nat) (row cel rest cnt : Int) (li : Int → Int), (ly + 1 - row).toNat < n → fy ≤ row → row ≤ ly + 1 → cel = (row - y + r) * (2 * r + 1) + r - x → clI W r x y at_ (W * D_) tq (row * W) rest cnt li → TT p l e rmBA_climb s m args below meth c D vwCl A 22 False Q 270 [(0, .ref (a 14)), (1, .ref b), (5, .ref (a 13)), (6, .ref (a 7)), (7, .int (iZ W)), (8, .int (iZ (2 * r + 1))), (9, .int (iZ lx)), (10, .int (iZ ly)), (11, .int (iZ fx)), (13, .int (iZ nx)), (16, .int (iZ cel)), (17, .int (iZ rest)), (18, .int (iZ cnt)), (19, .int (iZ row))] [] (cW cI cZ a W D_ r sz co ro ho ac al sd lf sq hs rs ts rt_ hc li re ow tc cp ck wa qp qt qs lo sb lc cn ch sk) 0 0 := by
  intro n
  induction n with
  | zero => intro row cel rest cnt li hn; omega
  | succ n ih =>
    intro row cel rest cnt li hn hc1 hc2 hcel I
    obtain ⟨⟨hW1, hW2, hD1, hD2, hr1, hr2⟩, hGp, hGs, hGk, hGx, hGi, hGm, hGq⟩ := id hG
    have hWD := wd_b hW1 hW2 hD1 hD2
    have hSQ := sd_b hr1 hr2
    have hrest : 0 ≤ rest := by have := I.1; omega
    have hrest2 := cl_b hr1 hr2 (fun p h1 h2 => by have := hq p h1 h2; omega) ha.2 I
    refine tt_iload F 13 rfl dBA_climb_270 ?_
    refine tt_iload F 7 rfl dBA_climb_272 ?_
    refine tt_icmp_gt F 386 ⟨by omega, by omega⟩ ⟨by omega, by omega⟩ dBA_climb_274 (by decide) (fun c274 => ?_) (fun c274 => ?_)
    · skip
      refine tt_sub [0, 1, 2, 3, 4, 5, 6, 7, 8, 9, 10, 11, 12, 13] rfl ?_
      refine k cel row rest cnt li ?_
      have I9 := cl_rows (j' := D_) hW1 (by omega) (by omega) (fun i q i0 i1 q0 q1 => by have hb := ix_b (i := i) (j := q) (W := W) (D := D_) i0 i1 (by omega) (by omega); have h1 := hq _ hb.1 hb.2; have h2 := rch_far (W := W) (x := x) (y := y) (i := i) (j := q) (tq := tq) hr1 i0 i1 (by omega) (Or.inr (Or.inr (Or.inr (hY2 q (by omega) (by omega))))); have := I.1; omega) I
      rw [Int.mul_comm D_ W] at I9
      exact I9
    · skip
      have hstep : cel + (2 * r + 1) = (row + 1 - y + r) * (2 * r + 1) + r - x := by rw [hcel, show row + 1 - y + r = (row - y + r) + 1 by omega, rw_s]; omega
      have hrt1 := hrt nx row (by omega) (by omega) (by omega) (by omega)
      have hix := ix_b (i := nx) (j := row) (W := W) (D := D_) (by omega) (by omega) (by omega) (by omega)
      have hq1 := hq _ hix.1 hix.2
      have his := ix_b (i := nx - x + r) (j := row - y + r) (W := 2 * r + 1) (D := 2 * r + 1) (by omega) (by omega) (by omega) (by omega)
      have hsq := hGq (nx - x) (row - y) (by omega) (by omega) (by omega) (by omega)
      have hsx : cel + nx = (row - y + r) * (2 * r + 1) + (nx - x + r) := by omega
      have hlb := lift_b (dx := nx - x) (dy := row - y) hr1 hr2
      refine tt_aload F 3 rfl dBA_climb_277 ?_
      refine tt_iload F 13 rfl dBA_climb_279 ?_
      refine tt_iald F 7 rfl (by omega) (by omega) (by omega) dBA_climb_281 ?_
      refine tt_name (fun tv htv => ?_)
      refine tt_aload F 2 rfl dBA_climb_282 ?_
      refine tt_iload F 10 rfl dBA_climb_284 ?_
      refine tt_iload F 9 rfl dBA_climb_286 ?_
      refine tt_iadd F dBA_climb_288 ?_
      refine tt_iald F 13 rfl (by omega) (by omega) (by omega) dBA_climb_289 ?_
      refine tt_name (fun sv hsv => ?_)
      have hsv2 : sv = lift r (nx - x) (row - y) := by rw [hsv, hsx]; exact hsq
      refine tt_iadd F dBA_climb_290 ?_
      refine tt_iload F 11 rfl dBA_climb_291 ?_
      refine tt_icmp_lt F 373 ⟨by omega, by omega⟩ ⟨by omega, by omega⟩ dBA_climb_293 (by decide) (fun c293 => ?_) (fun c293 => ?_)
      · skip
        refine tt_iload F 10 rfl dBA_climb_373 ?_
        refine tt_iload F 5 rfl dBA_climb_375 ?_
        refine tt_iadd F dBA_climb_377 ?_
        refine tt_name (fun x378 hx378 => ?_)
        refine tt_istore F [(16, .int (iZ x378)), (0, .ref (a 14)), (1, .ref b), (5, .ref (a 13)), (6, .ref (a 7)), (7, .int (iZ W)), (8, .int (iZ (2 * r + 1))), (9, .int (iZ lx)), (10, .int (iZ ly)), (11, .int (iZ fx)), (13, .int (iZ nx)), (17, .int (iZ rest)), (18, .int (iZ cnt)), (19, .int (iZ row))] (by decide) rfl dBA_climb_378 ?_
        refine tt_iinc F 13 [(19, .int (iZ (row + 1))), (16, .int (iZ x378)), (0, .ref (a 14)), (1, .ref b), (5, .ref (a 13)), (6, .ref (a 7)), (7, .int (iZ W)), (8, .int (iZ (2 * r + 1))), (9, .int (iZ lx)), (10, .int (iZ ly)), (11, .int (iZ fx)), (13, .int (iZ nx)), (17, .int (iZ rest)), (18, .int (iZ cnt))] rfl (by decide) rfl dBA_climb_380 ?_
        refine tt_goto F 270 (by decide) dBA_climb_383 ?_
        refine tt_sub [2, 3, 4, 5, 6, 7, 8, 9, 10, 11, 1, 12, 13, 0] rfl ?_
        exact ih (row + 1) x378 rest cnt li (by omega) (by omega) (by omega) (by omega) (by rw [rw_s]; rw [← Int.add_zero (row * W)] at I; exact cl_row (Int.le_refl 0) (by omega) (Int.le_refl W) (by omega) (climb_low (tv := tv) (y := y) (rest := rest) hr1 hr2 hX hX1 hX2 hN1 (fun q q0 q1 => by have hb := ix_b (i := q) (j := row) (W := W) (D := D_) q0 q1 (by omega) (by omega); have h1 := hq _ hb.1 hb.2; have h2 := hrt q row q0 q1 (by omega) (by omega); omega) (by omega) (by omega)) I)
      · skip
        refine tt_iload F 8 rfl dBA_climb_296 ?_
        refine tt_istore F [(20, .int (iZ fx)), (0, .ref (a 14)), (1, .ref b), (5, .ref (a 13)), (6, .ref (a 7)), (7, .int (iZ W)), (8, .int (iZ (2 * r + 1))), (9, .int (iZ lx)), (10, .int (iZ ly)), (11, .int (iZ fx)), (13, .int (iZ nx)), (16, .int (iZ cel)), (17, .int (iZ rest)), (18, .int (iZ cnt)), (19, .int (iZ row))] (by decide) rfl dBA_climb_298 ?_
        refine tt_sub [1, 2, 3, 4, 5, 6, 7, 8, 9, 10, 11, 12, 13, 14, 0] rfl ?_
        refine climb_in F hG he hq hrt hx hy ha hX hX1 hX2 hY hY1 hY2 hN hN1 (by omega) hcel (fun rest cnt li I2 => ?_) ((lx + 1 - fx).toNat + 1) fx rest cnt li (by omega) (by omega) (by omega) ?_
        · skip
          refine tt_iload F 10 rfl dBA_climb_373 ?_
          refine tt_iload F 5 rfl dBA_climb_375 ?_
          refine tt_iadd F dBA_climb_377 ?_
          refine tt_name (fun x378 hx378 => ?_)
          refine tt_istore F [(16, .int (iZ x378)), (0, .ref (a 14)), (1, .ref b), (5, .ref (a 13)), (6, .ref (a 7)), (7, .int (iZ W)), (8, .int (iZ (2 * r + 1))), (9, .int (iZ lx)), (10, .int (iZ ly)), (11, .int (iZ fx)), (13, .int (iZ nx)), (17, .int (iZ rest)), (18, .int (iZ cnt)), (19, .int (iZ row))] (by decide) rfl dBA_climb_378 ?_
          refine tt_iinc F 13 [(19, .int (iZ (row + 1))), (16, .int (iZ x378)), (0, .ref (a 14)), (1, .ref b), (5, .ref (a 13)), (6, .ref (a 7)), (7, .int (iZ W)), (8, .int (iZ (2 * r + 1))), (9, .int (iZ lx)), (10, .int (iZ ly)), (11, .int (iZ fx)), (13, .int (iZ nx)), (17, .int (iZ rest)), (18, .int (iZ cnt))] rfl (by decide) rfl dBA_climb_380 ?_
          refine tt_goto F 270 (by decide) dBA_climb_383 ?_
          refine tt_sub [2, 3, 4, 5, 6, 7, 8, 9, 10, 11, 1, 12, 13, 0] rfl ?_
          exact ih (row + 1) x378 rest cnt li (by omega) (by omega) (by omega) (by omega) I2
        · skip
          rw [← Int.add_zero (row * W)] at I
          exact cl_row (Int.le_refl 0) (by omega) (by omega) (by omega) (fun q q0 q1 => by have hb := ix_b (i := q) (j := row) (W := W) (D := D_) (by omega) (by omega) (by omega) (by omega); have h1 := hq _ hb.1 hb.2; have h2 := rch_far (W := W) (x := x) (y := y) (i := q) (j := row) (tq := tq) hr1 (by omega) (by omega) (by omega) (Or.inl (hX1 q (by omega) (by omega))); have := I.1; omega) I
theorem c_climb {l : Launch} {D : va_G} {cI cZ cJ : ClassId} {SL : List zS} {b q0 : Nat} {tq : Int → Int} {x y at_ : Int} (hG : GE W D_ r sz co ro ho ac al sd lf sq) (he : ∀ (li : Int → Int) (lc : Int), (cW cI cZ a W D_ r sz co ro ho ac al sd lf sq hs rs ts rt_ hc li re ow tc cp ck wa qp qt qs lo sb lc cn ch sk)[q0]? = some (b, aI cI (W * D_) tq)) (hq : ∀ p, 0 ≤ p → p < W * D_ → 0 ≤ tq p ∧ tq p ≤ ts p ∧ ts p ≤ 262144000) (hrt : ∀ i j, 0 ≤ i → i < W → 0 ≤ j → j < D_ → ts (j * W + i) ≤ rt_ j ∧ rt_ j ≤ 262144000) (hx : -r ≤ x ∧ x < W + r) (hy : -r ≤ y ∧ y < D_ + r) (ha : 0 ≤ at_ ∧ at_ ≤ 1000000000) : CI l D vwCl cI cZ cJ SL yBA_climb wsBA_climb rmBA_climb [.ref (a 14), .ref b, .int (iZ x), .int (iZ y), .int (iZ at_)] (cW cI cZ a W D_ r sz co ro ho ac al sd lf sq hs rs ts rt_ hc li re ow tc cp ck wa qp qt qs lo sb lc cn ch sk) (fun z w1 => ∃ (li' : Int → Int) (lc' : Int), w1 = (cW cI cZ a W D_ r sz co ro ho ac al sd lf sq hs rs ts rt_ hc li' re ow tc cp ck wa qp qt qs lo sb lc' cn ch sk) ∧ clI W r x y at_ (W * D_) tq (W * D_) z lc' li') := by
  refine tt_startI (by decide) rfl (Nat.le_of_ble_eq_true rfl) ?_
  intro p e s m args below meth c hnm F
  obtain ⟨⟨hW1, hW2, hD1, hD2, hr1, hr2⟩, hGp, hGs, hGk, hGx, hGi, hGm, hGq⟩ := id hG
  have hWD := wd_b hW1 hW2 hD1 hD2
  have hSQ := sd_b hr1 hr2
  refine tt_aload_n F 0 rfl rfl dBA_climb_0 ?_
  refine tt_get F inBA 14 rfl rfl 0 (by decide) we189 rfl dBA_climb_1 ?_
  refine tt_get F inSH 8 rfl rfl 5 (by decide) we164 rfl dBA_climb_4 ?_
  refine tt_astore F [(5, .ref (a 13)), (0, .ref (a 14)), (1, .ref b), (2, .int (iZ x)), (3, .int (iZ y)), (4, .int (iZ at_))] (by decide) rfl dBA_climb_7 ?_
  refine tt_aload_n F 1 rfl rfl dBA_climb_9 ?_
  refine tt_get F inBA 14 rfl rfl 8 (by decide) we209 rfl dBA_climb_10 ?_
  refine tt_get F inHO 1 rfl rfl 8 (by decide) we108 rfl dBA_climb_13 ?_
  refine tt_astore F [(6, .ref (a 7)), (5, .ref (a 13)), (0, .ref (a 14)), (1, .ref b), (2, .int (iZ x)), (3, .int (iZ y)), (4, .int (iZ at_))] (by decide) rfl dBA_climb_16 ?_
  refine tt_aload_n F 2 rfl rfl dBA_climb_18 ?_
  refine tt_get F inBA 14 rfl rfl 8 (by decide) we209 rfl dBA_climb_19 ?_
  refine tt_get F inHO 1 rfl rfl 0 (by decide) we85 rfl dBA_climb_22 ?_
  refine tt_istore F [(7, .int (iZ W)), (6, .ref (a 7)), (5, .ref (a 13)), (0, .ref (a 14)), (1, .ref b), (2, .int (iZ x)), (3, .int (iZ y)), (4, .int (iZ at_))] (by decide) rfl dBA_climb_25 ?_
  refine tt_aload_n F 3 rfl rfl dBA_climb_27 ?_
  refine tt_get F inBA 14 rfl rfl 0 (by decide) we189 rfl dBA_climb_28 ?_
  refine tt_get F inSH 8 rfl rfl 6 (by decide) we166 rfl dBA_climb_31 ?_
  refine tt_istore F [(8, .int (iZ (2 * r + 1))), (7, .int (iZ W)), (6, .ref (a 7)), (5, .ref (a 13)), (0, .ref (a 14)), (1, .ref b), (2, .int (iZ x)), (3, .int (iZ y)), (4, .int (iZ at_))] (by decide) rfl dBA_climb_34 ?_
  refine tt_join (pc' := 60) (lv' := [(8, .int (iZ (2 * r + 1))), (7, .int (iZ W)), (6, .ref (a 7)), (5, .ref (a 13)), (0, .ref (a 14)), (1, .ref b), (2, .int (iZ x)), (3, .int (iZ y)), (4, .int (iZ at_))]) (st' := []) (fun v => (x + r < W ∧ v = x + r) ∨ (W ≤ x + r ∧ v = W - 1)) (fun lx hlx => ?_) (fun J36 => ?_)
  · skip
    refine tt_istore F [(9, .int (iZ lx)), (8, .int (iZ (2 * r + 1))), (7, .int (iZ W)), (6, .ref (a 7)), (5, .ref (a 13)), (0, .ref (a 14)), (1, .ref b), (2, .int (iZ x)), (3, .int (iZ y)), (4, .int (iZ at_))] (by decide) rfl dBA_climb_60 ?_
    refine tt_join (pc' := 96) (lv' := [(9, .int (iZ lx)), (8, .int (iZ (2 * r + 1))), (7, .int (iZ W)), (6, .ref (a 7)), (5, .ref (a 13)), (0, .ref (a 14)), (1, .ref b), (2, .int (iZ x)), (3, .int (iZ y)), (4, .int (iZ at_))]) (st' := []) (fun v => (y + r < D_ ∧ v = y + r) ∨ (D_ ≤ y + r ∧ v = D_ - 1)) (fun ly hly => ?_) (fun J62 => ?_)
    · skip
      refine tt_istore F [(10, .int (iZ ly)), (9, .int (iZ lx)), (8, .int (iZ (2 * r + 1))), (7, .int (iZ W)), (6, .ref (a 7)), (5, .ref (a 13)), (0, .ref (a 14)), (1, .ref b), (2, .int (iZ x)), (3, .int (iZ y)), (4, .int (iZ at_))] (by decide) rfl dBA_climb_96 ?_
      refine tt_join (pc' := 116) (lv' := [(10, .int (iZ ly)), (9, .int (iZ lx)), (8, .int (iZ (2 * r + 1))), (7, .int (iZ W)), (6, .ref (a 7)), (5, .ref (a 13)), (0, .ref (a 14)), (1, .ref b), (2, .int (iZ x)), (3, .int (iZ y)), (4, .int (iZ at_))]) (st' := []) (fun v => (r < x ∧ v = x - r) ∨ (x ≤ r ∧ v = 0)) (fun fx hfx => ?_) (fun J98 => ?_)
      · skip
        refine tt_istore F [(11, .int (iZ fx)), (10, .int (iZ ly)), (9, .int (iZ lx)), (8, .int (iZ (2 * r + 1))), (7, .int (iZ W)), (6, .ref (a 7)), (5, .ref (a 13)), (0, .ref (a 14)), (1, .ref b), (2, .int (iZ x)), (3, .int (iZ y)), (4, .int (iZ at_))] (by decide) rfl dBA_climb_116 ?_
        refine tt_join (pc' := 136) (lv' := [(11, .int (iZ fx)), (10, .int (iZ ly)), (9, .int (iZ lx)), (8, .int (iZ (2 * r + 1))), (7, .int (iZ W)), (6, .ref (a 7)), (5, .ref (a 13)), (0, .ref (a 14)), (1, .ref b), (2, .int (iZ x)), (3, .int (iZ y)), (4, .int (iZ at_))]) (st' := []) (fun v => (r < y ∧ v = y - r) ∨ (y ≤ r ∧ v = 0)) (fun fy hfy => ?_) (fun J118 => ?_)
        · skip
          refine tt_istore F [(12, .int (iZ fy)), (11, .int (iZ fx)), (10, .int (iZ ly)), (9, .int (iZ lx)), (8, .int (iZ (2 * r + 1))), (7, .int (iZ W)), (6, .ref (a 7)), (5, .ref (a 13)), (0, .ref (a 14)), (1, .ref b), (2, .int (iZ x)), (3, .int (iZ y)), (4, .int (iZ at_))] (by decide) rfl dBA_climb_136 ?_
          refine tt_join (pc' := 161) (lv' := [(12, .int (iZ fy)), (11, .int (iZ fx)), (10, .int (iZ ly)), (9, .int (iZ lx)), (8, .int (iZ (2 * r + 1))), (7, .int (iZ W)), (6, .ref (a 7)), (5, .ref (a 13)), (0, .ref (a 14)), (1, .ref b), (2, .int (iZ x)), (3, .int (iZ y)), (4, .int (iZ at_))]) (st' := []) (fun v => (x < fx ∧ v = fx) ∨ (fx ≤ x ∧ lx < x ∧ v = lx) ∨ (fx ≤ x ∧ x ≤ lx ∧ v = x)) (fun nx hnx => ?_) (fun J138 => ?_)
          · skip
            refine tt_istore F [(13, .int (iZ nx)), (12, .int (iZ fy)), (11, .int (iZ fx)), (10, .int (iZ ly)), (9, .int (iZ lx)), (8, .int (iZ (2 * r + 1))), (7, .int (iZ W)), (6, .ref (a 7)), (5, .ref (a 13)), (0, .ref (a 14)), (1, .ref b), (2, .int (iZ x)), (3, .int (iZ y)), (4, .int (iZ at_))] (by decide) rfl dBA_climb_161 ?_
            refine tt_join (pc' := 186) (lv' := [(13, .int (iZ nx)), (12, .int (iZ fy)), (11, .int (iZ fx)), (10, .int (iZ ly)), (9, .int (iZ lx)), (8, .int (iZ (2 * r + 1))), (7, .int (iZ W)), (6, .ref (a 7)), (5, .ref (a 13)), (0, .ref (a 14)), (1, .ref b), (2, .int (iZ x)), (3, .int (iZ y)), (4, .int (iZ at_))]) (st' := []) (fun v => (y < fy ∧ v = fy) ∨ (fy ≤ y ∧ ly < y ∧ v = ly) ∨ (fy ≤ y ∧ y ≤ ly ∧ v = y)) (fun ny hny => ?_) (fun J163 => ?_)
            · skip
              refine tt_istore F [(14, .int (iZ ny)), (13, .int (iZ nx)), (12, .int (iZ fy)), (11, .int (iZ fx)), (10, .int (iZ ly)), (9, .int (iZ lx)), (8, .int (iZ (2 * r + 1))), (7, .int (iZ W)), (6, .ref (a 7)), (5, .ref (a 13)), (0, .ref (a 14)), (1, .ref b), (2, .int (iZ x)), (3, .int (iZ y)), (4, .int (iZ at_))] (by decide) rfl dBA_climb_186 ?_
              have hX : 0 ≤ fx ∧ fx ≤ lx ∧ lx < W ∧ x - r ≤ fx ∧ lx ≤ x + r := by omega
              have hX1 : ∀ q, 0 ≤ q → q < fx → q - x < -r := fun q _ _ => by omega
              have hX2 : ∀ q, lx < q → q < W → r < q - x := fun q _ _ => by omega
              have hY : 0 ≤ fy ∧ fy ≤ ly ∧ ly < D_ ∧ y - r ≤ fy ∧ ly ≤ y + r := by omega
              have hY1 : ∀ q, 0 ≤ q → q < fy → q - y < -r := fun q _ _ => by omega
              have hY2 : ∀ q, ly < q → q < D_ → r < q - y := fun q _ _ => by omega
              have hN : fx ≤ nx ∧ nx ≤ lx := by omega
              have hN1 : ∀ q, fx ≤ q → q ≤ lx → (0 ≤ nx - x ∧ nx - x ≤ q - x) ∨ (q - x ≤ nx - x ∧ nx - x ≤ 0) := fun q _ _ => by omega
              have hM : fy ≤ ny ∧ ny ≤ ly := by omega
              clear hlx hly hfx hfy hnx hny
              have hix := ix_b (i := nx) (j := ny) (W := W) (D := D_) (by omega) (by omega) (by omega) (by omega)
              have hq1 := hq _ hix.1 hix.2
              have his := ix_b (i := nx - x + r) (j := ny - y + r) (W := 2 * r + 1) (D := 2 * r + 1) (by omega) (by omega) (by omega) (by omega)
              have hsq := hGq (nx - x) (ny - y) (by omega) (by omega) (by omega) (by omega)
              have hlb := lift_b (dx := nx - x) (dy := ny - y) hr1 hr2
              refine tt_aload_n F 11 rfl rfl dBA_climb_188 ?_
              refine tt_iload F 0 rfl dBA_climb_189 ?_
              refine tt_iload F 7 rfl dBA_climb_191 ?_
              refine tt_imul F dBA_climb_193 ?_
              refine tt_iload F 1 rfl dBA_climb_194 ?_
              refine tt_iadd F dBA_climb_196 ?_
              refine tt_iald F q0 (he _ _) (by omega) (by omega) (by omega) dBA_climb_197 ?_
              refine tt_name (fun tv htv => ?_)
              refine tt_aload F 9 rfl dBA_climb_198 ?_
              refine tt_iload F 0 rfl dBA_climb_200 ?_
              refine tt_iload_n F 13 rfl rfl dBA_climb_202 ?_
              refine tt_isub F dBA_climb_203 ?_
              refine tt_aload_n F 10 rfl rfl dBA_climb_204 ?_
              refine tt_get F inBA 14 rfl rfl 9 (by decide) we210 rfl dBA_climb_205 ?_
              refine tt_iadd F dBA_climb_208 ?_
              refine tt_iload F 6 rfl dBA_climb_209 ?_
              refine tt_imul F dBA_climb_211 ?_
              refine tt_iload F 1 rfl dBA_climb_212 ?_
              refine tt_iadd F dBA_climb_214 ?_
              refine tt_iload_n F 12 rfl rfl dBA_climb_215 ?_
              refine tt_isub F dBA_climb_216 ?_
              refine tt_aload_n F 10 rfl rfl dBA_climb_217 ?_
              refine tt_get F inBA 14 rfl rfl 9 (by decide) we210 rfl dBA_climb_218 ?_
              refine tt_iadd F dBA_climb_221 ?_
              refine tt_iald F 13 rfl (by omega) (by omega) (by omega) dBA_climb_222 ?_
              refine tt_name (fun sv hsv => ?_)
              have hsv2 : sv = lift r (nx - x) (ny - y) := by rw [hsv, ← hsq]; congr 1; omega
              refine tt_iadd F dBA_climb_223 ?_
              refine tt_name (fun nl hnl => ?_)
              refine tt_istore F [(15, .int (iZ nl)), (14, .int (iZ ny)), (13, .int (iZ nx)), (12, .int (iZ fy)), (11, .int (iZ fx)), (10, .int (iZ ly)), (9, .int (iZ lx)), (8, .int (iZ (2 * r + 1))), (7, .int (iZ W)), (6, .ref (a 7)), (5, .ref (a 13)), (0, .ref (a 14)), (1, .ref b), (2, .int (iZ x)), (3, .int (iZ y)), (4, .int (iZ at_))] (by decide) rfl dBA_climb_224 ?_
              refine tt_iload F 3 rfl dBA_climb_226 ?_
              refine tt_iload_n F 14 rfl rfl dBA_climb_228 ?_
              refine tt_isub F dBA_climb_229 ?_
              refine tt_aload_n F 11 rfl rfl dBA_climb_230 ?_
              refine tt_get F inBA 14 rfl rfl 9 (by decide) we210 rfl dBA_climb_231 ?_
              refine tt_iadd F dBA_climb_234 ?_
              refine tt_iload F 7 rfl dBA_climb_235 ?_
              refine tt_imul F dBA_climb_237 ?_
              refine tt_aload_n F 11 rfl rfl dBA_climb_238 ?_
              refine tt_get F inBA 14 rfl rfl 9 (by decide) we210 rfl dBA_climb_239 ?_
              refine tt_iadd F dBA_climb_242 ?_
              refine tt_iload_n F 13 rfl rfl dBA_climb_243 ?_
              refine tt_isub F dBA_climb_244 ?_
              refine tt_name (fun cel hcel => ?_)
              refine tt_istore F [(16, .int (iZ cel)), (15, .int (iZ nl)), (14, .int (iZ ny)), (13, .int (iZ nx)), (12, .int (iZ fy)), (11, .int (iZ fx)), (10, .int (iZ ly)), (9, .int (iZ lx)), (8, .int (iZ (2 * r + 1))), (7, .int (iZ W)), (6, .ref (a 7)), (5, .ref (a 13)), (0, .ref (a 14)), (1, .ref b), (2, .int (iZ x)), (3, .int (iZ y)), (4, .int (iZ at_))] (by decide) rfl dBA_climb_245 ?_
              refine tt_join (pc' := 261) (lv' := [(16, .int (iZ cel)), (15, .int (iZ nl)), (14, .int (iZ ny)), (13, .int (iZ nx)), (12, .int (iZ fy)), (11, .int (iZ fx)), (10, .int (iZ ly)), (9, .int (iZ lx)), (8, .int (iZ (2 * r + 1))), (7, .int (iZ W)), (6, .ref (a 7)), (5, .ref (a 13)), (0, .ref (a 14)), (1, .ref b), (2, .int (iZ x)), (3, .int (iZ y)), (4, .int (iZ at_))]) (st' := []) (fun v => (at_ < nl ∧ v = nl) ∨ (nl ≤ at_ ∧ v = at_)) (fun rest0 hrest0 => ?_) (fun J247 => ?_)
              · skip
                refine tt_istore F [(17, .int (iZ rest0)), (16, .int (iZ cel)), (15, .int (iZ nl)), (14, .int (iZ ny)), (13, .int (iZ nx)), (12, .int (iZ fy)), (11, .int (iZ fx)), (10, .int (iZ ly)), (9, .int (iZ lx)), (8, .int (iZ (2 * r + 1))), (7, .int (iZ W)), (6, .ref (a 7)), (5, .ref (a 13)), (0, .ref (a 14)), (1, .ref b), (2, .int (iZ x)), (3, .int (iZ y)), (4, .int (iZ at_))] (by decide) rfl dBA_climb_261 ?_
                refine tt_iconst F dBA_climb_263 ?_
                refine tt_istore F [(18, .int (iZ 0)), (17, .int (iZ rest0)), (16, .int (iZ cel)), (15, .int (iZ nl)), (14, .int (iZ ny)), (13, .int (iZ nx)), (12, .int (iZ fy)), (11, .int (iZ fx)), (10, .int (iZ ly)), (9, .int (iZ lx)), (8, .int (iZ (2 * r + 1))), (7, .int (iZ W)), (6, .ref (a 7)), (5, .ref (a 13)), (0, .ref (a 14)), (1, .ref b), (2, .int (iZ x)), (3, .int (iZ y)), (4, .int (iZ at_))] (by decide) rfl dBA_climb_264 ?_
                refine tt_iload F 6 rfl dBA_climb_266 ?_
                refine tt_istore F [(19, .int (iZ fy)), (18, .int (iZ 0)), (17, .int (iZ rest0)), (16, .int (iZ cel)), (15, .int (iZ nl)), (14, .int (iZ ny)), (13, .int (iZ nx)), (12, .int (iZ fy)), (11, .int (iZ fx)), (10, .int (iZ ly)), (9, .int (iZ lx)), (8, .int (iZ (2 * r + 1))), (7, .int (iZ W)), (6, .ref (a 7)), (5, .ref (a 13)), (0, .ref (a 14)), (1, .ref b), (2, .int (iZ x)), (3, .int (iZ y)), (4, .int (iZ at_))] (by decide) rfl dBA_climb_268 ?_
                refine tt_sub [15, 16, 14, 13, 12, 11, 10, 9, 8, 6, 3, 2, 1, 0] rfl ?_
                refine climb_out F hG he hq hrt hx hy ha hX hX1 hX2 hY hY1 hY2 hN hN1 (fun cel row rest cnt li I2 => ?_) ((ly + 1 - fy).toNat + 1) fy cel rest0 0 li (by omega) (by omega) (by omega) hcel ?_
                · skip
                  refine tt_aload_n F 0 rfl rfl dBA_climb_386 ?_
                  refine tt_iload F 12 rfl dBA_climb_387 ?_
                  refine tt_put F (fun h => h) inBA tyBA tyBA_ok nmBA 14 rfl rfl 7 (by decide) we206 rfl rfl rfl rfl (show (7 : Nat) + 1 ≤ _ from Nat.le_of_ble_eq_true rfl) dBA_climb_389 ?_
                  refine tt_iload F 11 rfl dBA_climb_392 ?_
                  exact tt_iret F rfl (Nat.le_of_ble_eq_true rfl) (Nat.le_of_ble_eq_true rfl) dBA_climb_394 ⟨_, _, rfl, I2⟩
                · skip
                  refine cl_rows hW1 (Int.le_refl 0) (by omega) (fun i q i0 i1 q0 q1 => by have hb := ix_b (i := i) (j := q) (W := W) (D := D_) i0 i1 (by omega) (by omega); have h1 := hq _ hb.1 hb.2; have h2 := rch_far (W := W) (x := x) (y := y) (i := i) (j := q) (tq := tq) hr1 i0 i1 (by omega) (Or.inr (Or.inr (Or.inl (hY1 q (by omega) (by omega))))); omega) (cl_0 (by omega) ?_)
                  by_cases hg : at_ < nl
                  · exact Or.inr ⟨ny * W + nx, by omega, by omega, by rw [rch_ij (by omega) (by omega)]; omega⟩
                  · exact Or.inl (by omega)
              · skip
                refine tt_iload F 1 rfl dBA_climb_247 ?_
                refine tt_iload F 16 rfl dBA_climb_249 ?_
                refine tt_icmp_le F 259 ⟨by omega, by omega⟩ ⟨by omega, by omega⟩ dBA_climb_251 (by decide) (fun c251 => ?_) (fun c251 => ?_)
                · skip
                  refine tt_iload F 16 rfl dBA_climb_259 ?_
                  exact J247 _ (by omega)
                · skip
                  refine tt_iload F 1 rfl dBA_climb_254 ?_
                  refine tt_goto F 261 (by decide) dBA_climb_256 ?_
                  exact J247 _ (by omega)
            · skip
              refine tt_iload_n F 12 rfl rfl dBA_climb_163 ?_
              refine tt_iload F 1 rfl dBA_climb_164 ?_
              refine tt_icmp_ge F 174 ⟨by omega, by omega⟩ ⟨by omega, by omega⟩ dBA_climb_166 (by decide) (fun c166 => ?_) (fun c166 => ?_)
              · skip
                refine tt_iload_n F 12 rfl rfl dBA_climb_174 ?_
                refine tt_iload F 3 rfl dBA_climb_175 ?_
                refine tt_icmp_le F 185 ⟨by omega, by omega⟩ ⟨by omega, by omega⟩ dBA_climb_177 (by decide) (fun c177 => ?_) (fun c177 => ?_)
                · skip
                  refine tt_iload_n F 12 rfl rfl dBA_climb_185 ?_
                  exact J163 _ (by omega)
                · skip
                  refine tt_iload F 3 rfl dBA_climb_180 ?_
                  refine tt_goto F 186 (by decide) dBA_climb_182 ?_
                  exact J163 _ (by omega)
              · skip
                refine tt_iload F 1 rfl dBA_climb_169 ?_
                refine tt_goto F 186 (by decide) dBA_climb_171 ?_
                exact J163 _ (by omega)
          · skip
            refine tt_iload_n F 10 rfl rfl dBA_climb_138 ?_
            refine tt_iload F 1 rfl dBA_climb_139 ?_
            refine tt_icmp_ge F 149 ⟨by omega, by omega⟩ ⟨by omega, by omega⟩ dBA_climb_141 (by decide) (fun c141 => ?_) (fun c141 => ?_)
            · skip
              refine tt_iload_n F 10 rfl rfl dBA_climb_149 ?_
              refine tt_iload F 3 rfl dBA_climb_150 ?_
              refine tt_icmp_le F 160 ⟨by omega, by omega⟩ ⟨by omega, by omega⟩ dBA_climb_152 (by decide) (fun c152 => ?_) (fun c152 => ?_)
              · skip
                refine tt_iload_n F 10 rfl rfl dBA_climb_160 ?_
                exact J138 _ (by omega)
              · skip
                refine tt_iload F 3 rfl dBA_climb_155 ?_
                refine tt_goto F 161 (by decide) dBA_climb_157 ?_
                exact J138 _ (by omega)
            · skip
              refine tt_iload F 1 rfl dBA_climb_144 ?_
              refine tt_goto F 161 (by decide) dBA_climb_146 ?_
              exact J138 _ (by omega)
        · skip
          refine tt_iload_n F 10 rfl rfl dBA_climb_118 ?_
          refine tt_aload_n F 7 rfl rfl dBA_climb_119 ?_
          refine tt_get F inBA 14 rfl rfl 9 (by decide) we210 rfl dBA_climb_120 ?_
          refine tt_icmp_le F 135 ⟨by omega, by omega⟩ ⟨by omega, by omega⟩ dBA_climb_123 (by decide) (fun c123 => ?_) (fun c123 => ?_)
          · skip
            refine tt_iconst F dBA_climb_135 ?_
            exact J118 _ (by omega)
          · skip
            refine tt_iload_n F 10 rfl rfl dBA_climb_126 ?_
            refine tt_aload_n F 7 rfl rfl dBA_climb_127 ?_
            refine tt_get F inBA 14 rfl rfl 9 (by decide) we210 rfl dBA_climb_128 ?_
            refine tt_isub F dBA_climb_131 ?_
            refine tt_goto F 136 (by decide) dBA_climb_132 ?_
            exact J118 _ (by omega)
      · skip
        refine tt_iload_n F 8 rfl rfl dBA_climb_98 ?_
        refine tt_aload_n F 6 rfl rfl dBA_climb_99 ?_
        refine tt_get F inBA 14 rfl rfl 9 (by decide) we210 rfl dBA_climb_100 ?_
        refine tt_icmp_le F 115 ⟨by omega, by omega⟩ ⟨by omega, by omega⟩ dBA_climb_103 (by decide) (fun c103 => ?_) (fun c103 => ?_)
        · skip
          refine tt_iconst F dBA_climb_115 ?_
          exact J98 _ (by omega)
        · skip
          refine tt_iload_n F 8 rfl rfl dBA_climb_106 ?_
          refine tt_aload_n F 6 rfl rfl dBA_climb_107 ?_
          refine tt_get F inBA 14 rfl rfl 9 (by decide) we210 rfl dBA_climb_108 ?_
          refine tt_isub F dBA_climb_111 ?_
          refine tt_goto F 116 (by decide) dBA_climb_112 ?_
          exact J98 _ (by omega)
    · skip
      refine tt_iload_n F 8 rfl rfl dBA_climb_62 ?_
      refine tt_aload_n F 5 rfl rfl dBA_climb_63 ?_
      refine tt_get F inBA 14 rfl rfl 9 (by decide) we210 rfl dBA_climb_64 ?_
      refine tt_iadd F dBA_climb_67 ?_
      refine tt_aload_n F 5 rfl rfl dBA_climb_68 ?_
      refine tt_get F inBA 14 rfl rfl 8 (by decide) we209 rfl dBA_climb_69 ?_
      refine tt_get F inHO 1 rfl rfl 1 (by decide) we87 rfl dBA_climb_72 ?_
      refine tt_icmp_ge F 87 ⟨by omega, by omega⟩ ⟨by omega, by omega⟩ dBA_climb_75 (by decide) (fun c75 => ?_) (fun c75 => ?_)
      · skip
        refine tt_aload_n F 5 rfl rfl dBA_climb_87 ?_
        refine tt_get F inBA 14 rfl rfl 8 (by decide) we209 rfl dBA_climb_88 ?_
        refine tt_get F inHO 1 rfl rfl 1 (by decide) we87 rfl dBA_climb_91 ?_
        refine tt_iconst F dBA_climb_94 ?_
        refine tt_isub F dBA_climb_95 ?_
        exact J62 _ (by omega)
      · skip
        refine tt_iload_n F 8 rfl rfl dBA_climb_78 ?_
        refine tt_aload_n F 5 rfl rfl dBA_climb_79 ?_
        refine tt_get F inBA 14 rfl rfl 9 (by decide) we210 rfl dBA_climb_80 ?_
        refine tt_iadd F dBA_climb_83 ?_
        refine tt_goto F 96 (by decide) dBA_climb_84 ?_
        exact J62 _ (by omega)
  · skip
    refine tt_iload_n F 6 rfl rfl dBA_climb_36 ?_
    refine tt_aload_n F 4 rfl rfl dBA_climb_37 ?_
    refine tt_get F inBA 14 rfl rfl 9 (by decide) we210 rfl dBA_climb_38 ?_
    refine tt_iadd F dBA_climb_41 ?_
    refine tt_iload F 1 rfl dBA_climb_42 ?_
    refine tt_icmp_ge F 56 ⟨by omega, by omega⟩ ⟨by omega, by omega⟩ dBA_climb_44 (by decide) (fun c44 => ?_) (fun c44 => ?_)
    · skip
      refine tt_iload F 1 rfl dBA_climb_56 ?_
      refine tt_iconst F dBA_climb_58 ?_
      refine tt_isub F dBA_climb_59 ?_
      exact J36 _ (by omega)
    · skip
      refine tt_iload_n F 6 rfl rfl dBA_climb_47 ?_
      refine tt_aload_n F 4 rfl rfl dBA_climb_48 ?_
      refine tt_get F inBA 14 rfl rfl 9 (by decide) we210 rfl dBA_climb_49 ?_
      refine tt_iadd F dBA_climb_52 ?_
      refine tt_goto F 60 (by decide) dBA_climb_53 ?_
      exact J36 _ (by omega)
abbrev rmBA_listTouched : Room := { frames := 2, cells := 0, slots := 0, locals := 44 }
set_option maxHeartbeats 4000000 in
set_option maxRecDepth 100000 in
theorem c_listTouched {x y : Int} (hG : GE W D_ r sz co ro ho ac al sd lf sq) (hts : ∀ p, 0 ≤ p → p < W * D_ → 0 ≤ ts p ∧ ts p ≤ 262144000) (hrt : ∀ i j, 0 ≤ i → i < W → 0 ≤ j → j < D_ → ts (j * W + i) ≤ rt_ j ∧ rt_ j ≤ 262144000) (hx : -r ≤ x ∧ x < W + r) (hy : -r ≤ y ∧ y < D_ + r) (hre : 0 ≤ re ((y + r) * (W + 2 * r) + (x + r)) ∧ re ((y + r) * (W + 2 * r) + (x + r)) ≤ 1000000000) : CV l D vwCl cI cZ cJ SL yBA_listTouched wsBA_listTouched rmBA_listTouched [.ref (a 14), .int (iZ x), .int (iZ y)] (cW cI cZ a W D_ r sz co ro ho ac al sd lf sq hs rs ts rt_ hc li re ow tc cp ck wa qp qt qs lo sb lc cn ch sk) (fun w1 => ∃ (li' : Int → Int) (lc' z : Int), w1 = (cW cI cZ a W D_ r sz co ro ho ac al sd lf sq hs rs ts rt_ hc li' re ow tc cp ck wa qp qt qs lo sb lc' cn ch sk) ∧ clI W r x y (re ((y + r) * (W + 2 * r) + (x + r))) (W * D_) ts (W * D_) z lc' li') := by
  refine tt_startV (by decide) rfl (Nat.le_of_ble_eq_true rfl) ?_
  intro p e s m args below meth c hnm F
  obtain ⟨⟨hW1, hW2, hD1, hD2, hr1, hr2⟩, hGp, hGs, hGk, hGx, hGi, hGm, hGq⟩ := id hG
  have hWD := wd_b hW1 hW2 hD1 hD2
  have hPL := pl_b hW1 hW2 hD1 hD2 hr1 hr2
  have hSQ := sd_b hr1 hr2
  refine tt_aload_n F 0 rfl rfl dBA_listTouched_0 ?_
  refine tt_aload_n F 0 rfl rfl dBA_listTouched_1 ?_
  refine tt_get F inBA 14 rfl rfl 8 (by decide) we209 rfl dBA_listTouched_2 ?_
  refine tt_get F inHO 1 rfl rfl 7 (by decide) we105 rfl dBA_listTouched_5 ?_
  refine tt_iload_n F 1 rfl rfl dBA_listTouched_8 ?_
  refine tt_iload_n F 2 rfl rfl dBA_listTouched_9 ?_
  refine tt_aload_n F 0 rfl rfl dBA_listTouched_10 ?_
  refine tt_iload_n F 1 rfl rfl dBA_listTouched_11 ?_
  refine tt_iload_n F 2 rfl rfl dBA_listTouched_12 ?_
  refine tt_cIV0 F (fun h => h) (As := [.int (iZ x), .int (iZ y)]) 14 rfl rfl (c_restAt (hs := hs) (rs := rs) (ts := ts) (rt_ := rt_) (hc := hc) (li := li) (re := re) (ow := ow) (tc := tc) (cp := cp) (ck := ck) (wa := wa) (qp := qp) (qt := qt) (qs := qs) (lo := lo) (sb := sb) (lc := lc) (cn := cn) (ch := ch) (sk := sk) (x := x) (y := y) hG (by omega) (by omega)) (cwV 2 F.1.2.2.2.2 (gw_V wd609 wd578 wd579 wd48 wd580) rfl rfl rfl (by decide +kernel) ⟨(Nat.le_of_ble_eq_true rfl), (Nat.le_of_ble_eq_true rfl)⟩) rfl rfl rfl (Nat.le_of_ble_eq_true rfl) ⟨(Nat.le_of_ble_eq_true rfl), (Nat.le_of_ble_eq_true rfl)⟩ dBA_listTouched_13 (fun z13 w1 hp => ?_)
  obtain ⟨hz13, rfl⟩ := hp
  refine tt_cIV0 F (fun h => h) (As := [.ref (a 6), .int (iZ x), .int (iZ y), .int (iZ z13)]) 14 rfl rfl (c_climb (hs := hs) (rs := rs) (ts := ts) (rt_ := rt_) (hc := hc) (li := li) (re := re) (ow := ow) (tc := tc) (cp := cp) (ck := ck) (wa := wa) (qp := qp) (qt := qt) (qs := qs) (lo := lo) (sb := sb) (lc := lc) (cn := cn) (ch := ch) (sk := sk) (q0 := 6) (b := a 6) (tq := ts) (x := x) (y := y) (at_ := z13) hG (fun _ _ => rfl) (fun p h1 h2 => ⟨(hts p h1 h2).1, Int.le_refl _, (hts p h1 h2).2⟩) hrt (by omega) (by omega) (by rw [hz13]; exact hre)) (cwV 4 F.1.2.2.2.2 (gw_V wd456 wd384 wd385 wd48 wd386) rfl rfl rfl (by decide +kernel) ⟨(Nat.le_of_ble_eq_true rfl), (Nat.le_of_ble_eq_true rfl)⟩) rfl rfl rfl (Nat.le_of_ble_eq_true rfl) ⟨(Nat.le_of_ble_eq_true rfl), (Nat.le_of_ble_eq_true rfl)⟩ dBA_listTouched_16 (fun z16 w1 hp => ?_)
  obtain ⟨li16, lc16, rfl, I16⟩ := hp
  refine tt_pop F rfl dBA_listTouched_19 ?_
  exact tt_vret F rfl (Nat.le_of_ble_eq_true rfl) (Nat.le_of_ble_eq_true rfl) dBA_listTouched_20 ⟨_, _, _, rfl, by rw [← hz13]; exact I16⟩
end CL
end
