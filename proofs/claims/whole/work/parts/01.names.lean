-- ===== PART A: goes FIRST, ahead of the names: the tables' words, and 'selects' of the private methods out of them =====
/-- a private method of a class that the tables say can be made, by its rows of tables_1 -/
def lw_okq (q : MethodName × Nat) : Prop := (q.1.cls ≠ "java/lang/invoke/MethodHandle" ∧ q.1.cls ≠ "java/lang/invoke/VarHandle") ∧ Cond.instantiable q.1.cls q.2 ∈ tables_1 ∧ Cond.privateMethod q.1 ∈ tables_1 ∧ Cond.instanceMethod q.1 ∈ tables_1
theorem lw_p0 : lw_okq (⟨"RollingBalls$Ball", "placeIndex", "(II)I"⟩, 12) := ⟨⟨by decide +kernel, by decide +kernel⟩, List.mem_of_getElem? (i := 86) (by decide +kernel), List.mem_of_getElem? (i := 142) (by decide +kernel), List.mem_of_getElem? (i := 143) (by decide +kernel)⟩
theorem lw_p1 : lw_okq (⟨"RollingBalls$Plan", "areWantedSafe", "()Z"⟩, 12) := ⟨⟨by decide +kernel, by decide +kernel⟩, List.mem_of_getElem? (i := 195) (by decide +kernel), List.mem_of_getElem? (i := 285) (by decide +kernel), List.mem_of_getElem? (i := 286) (by decide +kernel)⟩
theorem lw_p2 : lw_okq (⟨"RollingBalls$Plan", "listChoices", "()V"⟩, 12) := ⟨⟨by decide +kernel, by decide +kernel⟩, List.mem_of_getElem? (i := 195) (by decide +kernel), List.mem_of_getElem? (i := 293) (by decide +kernel), List.mem_of_getElem? (i := 294) (by decide +kernel)⟩
theorem lw_p3 : lw_okq (⟨"RollingBalls$Plan", "addChoice", "(III)V"⟩, 12) := ⟨⟨by decide +kernel, by decide +kernel⟩, List.mem_of_getElem? (i := 195) (by decide +kernel), List.mem_of_getElem? (i := 304) (by decide +kernel), List.mem_of_getElem? (i := 305) (by decide +kernel)⟩
theorem lw_p4 : lw_okq (⟨"RollingBalls$Plan", "countCandidates", "(II)I"⟩, 12) := ⟨⟨by decide +kernel, by decide +kernel⟩, List.mem_of_getElem? (i := 195) (by decide +kernel), List.mem_of_getElem? (i := 308) (by decide +kernel), List.mem_of_getElem? (i := 309) (by decide +kernel)⟩
theorem lw_p5 : lw_okq (⟨"RollingBalls$Plan", "findLowTips", "()V"⟩, 12) := ⟨⟨by decide +kernel, by decide +kernel⟩, List.mem_of_getElem? (i := 195) (by decide +kernel), List.mem_of_getElem? (i := 312) (by decide +kernel), List.mem_of_getElem? (i := 313) (by decide +kernel)⟩
theorem lw_p6 : lw_okq (⟨"RollingBalls$Plan", "isCandidate", "(I)Z"⟩, 12) := ⟨⟨by decide +kernel, by decide +kernel⟩, List.mem_of_getElem? (i := 195) (by decide +kernel), List.mem_of_getElem? (i := 320) (by decide +kernel), List.mem_of_getElem? (i := 321) (by decide +kernel)⟩
theorem lw_p7 : lw_okq (⟨"RollingBalls$Plan", "setsThatSave", "(II)I"⟩, 12) := ⟨⟨by decide +kernel, by decide +kernel⟩, List.mem_of_getElem? (i := 195) (by decide +kernel), List.mem_of_getElem? (i := 324) (by decide +kernel), List.mem_of_getElem? (i := 325) (by decide +kernel)⟩
theorem lw_p8 : lw_okq (⟨"RollingBalls$Plan", "setsThatCover", "(III)I"⟩, 12) := ⟨⟨by decide +kernel, by decide +kernel⟩, List.mem_of_getElem? (i := 195) (by decide +kernel), List.mem_of_getElem? (i := 328) (by decide +kernel), List.mem_of_getElem? (i := 329) (by decide +kernel)⟩
theorem lw_p9 : lw_okq (⟨"RollingBalls$Plan", "maySink", "(I)Z"⟩, 12) := ⟨⟨by decide +kernel, by decide +kernel⟩, List.mem_of_getElem? (i := 195) (by decide +kernel), List.mem_of_getElem? (i := 332) (by decide +kernel), List.mem_of_getElem? (i := 333) (by decide +kernel)⟩
theorem lw_p10 : lw_okq (⟨"RollingBalls$Plan", "lowRest", "(II)I"⟩, 12) := ⟨⟨by decide +kernel, by decide +kernel⟩, List.mem_of_getElem? (i := 195) (by decide +kernel), List.mem_of_getElem? (i := 336) (by decide +kernel), List.mem_of_getElem? (i := 337) (by decide +kernel)⟩
theorem lw_p11 : lw_okq (⟨"RollingBalls$Plan", "setsAbove", "(III)I"⟩, 12) := ⟨⟨by decide +kernel, by decide +kernel⟩, List.mem_of_getElem? (i := 195) (by decide +kernel), List.mem_of_getElem? (i := 344) (by decide +kernel), List.mem_of_getElem? (i := 345) (by decide +kernel)⟩
theorem lw_p12 : lw_okq (⟨"RollingBalls$Plan", "setsThatFree", "(II)I"⟩, 12) := ⟨⟨by decide +kernel, by decide +kernel⟩, List.mem_of_getElem? (i := 195) (by decide +kernel), List.mem_of_getElem? (i := 353) (by decide +kernel), List.mem_of_getElem? (i := 354) (by decide +kernel)⟩
theorem lw_p13 : lw_okq (⟨"RollingBalls$Plan", "bestOf", "(I)I"⟩, 12) := ⟨⟨by decide +kernel, by decide +kernel⟩, List.mem_of_getElem? (i := 195) (by decide +kernel), List.mem_of_getElem? (i := 357) (by decide +kernel), List.mem_of_getElem? (i := 358) (by decide +kernel)⟩
theorem lw_p14 : lw_okq (⟨"RollingBalls$Plan", "isBetter", "(II)Z"⟩, 12) := ⟨⟨by decide +kernel, by decide +kernel⟩, List.mem_of_getElem? (i := 195) (by decide +kernel), List.mem_of_getElem? (i := 364) (by decide +kernel), List.mem_of_getElem? (i := 365) (by decide +kernel)⟩
theorem lw_p15 : lw_okq (⟨"RollingBalls$Plan", "lengthOf", "(I)I"⟩, 12) := ⟨⟨by decide +kernel, by decide +kernel⟩, List.mem_of_getElem? (i := 195) (by decide +kernel), List.mem_of_getElem? (i := 374) (by decide +kernel), List.mem_of_getElem? (i := 375) (by decide +kernel)⟩
def lw_privs_1 : List (MethodName × Nat) := [(⟨"RollingBalls$Ball", "placeIndex", "(II)I"⟩, 12), (⟨"RollingBalls$Plan", "areWantedSafe", "()Z"⟩, 12), (⟨"RollingBalls$Plan", "listChoices", "()V"⟩, 12), (⟨"RollingBalls$Plan", "addChoice", "(III)V"⟩, 12), (⟨"RollingBalls$Plan", "countCandidates", "(II)I"⟩, 12), (⟨"RollingBalls$Plan", "findLowTips", "()V"⟩, 12), (⟨"RollingBalls$Plan", "isCandidate", "(I)Z"⟩, 12), (⟨"RollingBalls$Plan", "setsThatSave", "(II)I"⟩, 12), (⟨"RollingBalls$Plan", "setsThatCover", "(III)I"⟩, 12), (⟨"RollingBalls$Plan", "maySink", "(I)Z"⟩, 12), (⟨"RollingBalls$Plan", "lowRest", "(II)I"⟩, 12), (⟨"RollingBalls$Plan", "setsAbove", "(III)I"⟩, 12), (⟨"RollingBalls$Plan", "setsThatFree", "(II)I"⟩, 12), (⟨"RollingBalls$Plan", "bestOf", "(I)I"⟩, 12), (⟨"RollingBalls$Plan", "isBetter", "(II)Z"⟩, 12), (⟨"RollingBalls$Plan", "lengthOf", "(I)I"⟩, 12)]
theorem lw_r1 : ∀ q ∈ lw_privs_1, lw_okq q := List.forall_mem_cons.mpr ⟨lw_p0, List.forall_mem_cons.mpr ⟨lw_p1, List.forall_mem_cons.mpr ⟨lw_p2, List.forall_mem_cons.mpr ⟨lw_p3, List.forall_mem_cons.mpr ⟨lw_p4, List.forall_mem_cons.mpr ⟨lw_p5, List.forall_mem_cons.mpr ⟨lw_p6, List.forall_mem_cons.mpr ⟨lw_p7, List.forall_mem_cons.mpr ⟨lw_p8, List.forall_mem_cons.mpr ⟨lw_p9, List.forall_mem_cons.mpr ⟨lw_p10, List.forall_mem_cons.mpr ⟨lw_p11, List.forall_mem_cons.mpr ⟨lw_p12, List.forall_mem_cons.mpr ⟨lw_p13, List.forall_mem_cons.mpr ⟨lw_p14, List.forall_mem_cons.mpr ⟨lw_p15, fun _ h => absurd h List.not_mem_nil⟩⟩⟩⟩⟩⟩⟩⟩⟩⟩⟩⟩⟩⟩⟩⟩
theorem lw_p16 : lw_okq (⟨"RollingBalls$Plan", "setsBetterThan", "(II)I"⟩, 12) := ⟨⟨by decide +kernel, by decide +kernel⟩, List.mem_of_getElem? (i := 195) (by decide +kernel), List.mem_of_getElem? (i := 378) (by decide +kernel), List.mem_of_getElem? (i := 379) (by decide +kernel)⟩
theorem lw_p17 : lw_okq (⟨"RollingBalls$Plan", "setsThatMayLower", "(II)I"⟩, 12) := ⟨⟨by decide +kernel, by decide +kernel⟩, List.mem_of_getElem? (i := 195) (by decide +kernel), List.mem_of_getElem? (i := 382) (by decide +kernel), List.mem_of_getElem? (i := 383) (by decide +kernel)⟩
theorem lw_p18 : lw_okq (⟨"RollingBalls$Plan", "isWantedListed", "()Z"⟩, 12) := ⟨⟨by decide +kernel, by decide +kernel⟩, List.mem_of_getElem? (i := 195) (by decide +kernel), List.mem_of_getElem? (i := 386) (by decide +kernel), List.mem_of_getElem? (i := 387) (by decide +kernel)⟩
theorem lw_p19 : lw_okq (⟨"RollingBalls", "putRod", "(II)V"⟩, 7) := ⟨⟨by decide +kernel, by decide +kernel⟩, List.mem_of_getElem? (i := 18) (by decide +kernel), List.mem_of_getElem? (i := 396) (by decide +kernel), List.mem_of_getElem? (i := 397) (by decide +kernel)⟩
theorem lw_p20 : lw_okq (⟨"RollingBalls$Ball", "raiseTip", "(II)V"⟩, 12) := ⟨⟨by decide +kernel, by decide +kernel⟩, List.mem_of_getElem? (i := 86) (by decide +kernel), List.mem_of_getElem? (i := 405) (by decide +kernel), List.mem_of_getElem? (i := 406) (by decide +kernel)⟩
theorem lw_p21 : lw_okq (⟨"RollingBalls$Ball", "leave", "(III)V"⟩, 12) := ⟨⟨by decide +kernel, by decide +kernel⟩, List.mem_of_getElem? (i := 86) (by decide +kernel), List.mem_of_getElem? (i := 409) (by decide +kernel), List.mem_of_getElem? (i := 410) (by decide +kernel)⟩
theorem lw_p22 : lw_okq (⟨"RollingBalls$Ball", "countListed", "(I)V"⟩, 12) := ⟨⟨by decide +kernel, by decide +kernel⟩, List.mem_of_getElem? (i := 86) (by decide +kernel), List.mem_of_getElem? (i := 414) (by decide +kernel), List.mem_of_getElem? (i := 415) (by decide +kernel)⟩
theorem lw_p23 : lw_okq (⟨"RollingBalls$Ball", "lowerTip", "(II)V"⟩, 12) := ⟨⟨by decide +kernel, by decide +kernel⟩, List.mem_of_getElem? (i := 86) (by decide +kernel), List.mem_of_getElem? (i := 423) (by decide +kernel), List.mem_of_getElem? (i := 424) (by decide +kernel)⟩
theorem lw_p24 : lw_okq (⟨"RollingBalls$Ball", "settle", "(III)V"⟩, 12) := ⟨⟨by decide +kernel, by decide +kernel⟩, List.mem_of_getElem? (i := 86) (by decide +kernel), List.mem_of_getElem? (i := 427) (by decide +kernel), List.mem_of_getElem? (i := 428) (by decide +kernel)⟩
theorem lw_p25 : lw_okq (⟨"RollingBalls", "pointAt", "(II)I"⟩, 7) := ⟨⟨by decide +kernel, by decide +kernel⟩, List.mem_of_getElem? (i := 18) (by decide +kernel), List.mem_of_getElem? (i := 442) (by decide +kernel), List.mem_of_getElem? (i := 443) (by decide +kernel)⟩
theorem lw_p26 : lw_okq (⟨"java/lang/Throwable", "fillInStackTrace", "(I)Ljava/lang/Throwable;"⟩, 6) := ⟨⟨by decide +kernel, by decide +kernel⟩, List.mem_of_getElem? (i := 486) (by decide +kernel), List.mem_of_getElem? (i := 484) (by decide +kernel), List.mem_of_getElem? (i := 485) (by decide +kernel)⟩
theorem lw_p27 : lw_okq (⟨"RollingBalls", "needPlace", "(II)V"⟩, 7) := ⟨⟨by decide +kernel, by decide +kernel⟩, List.mem_of_getElem? (i := 18) (by decide +kernel), List.mem_of_getElem? (i := 530) (by decide +kernel), List.mem_of_getElem? (i := 531) (by decide +kernel)⟩
theorem lw_p28 : lw_okq (⟨"RollingBalls", "numberOf", "(I)I"⟩, 7) := ⟨⟨by decide +kernel, by decide +kernel⟩, List.mem_of_getElem? (i := 18) (by decide +kernel), List.mem_of_getElem? (i := 567) (by decide +kernel), List.mem_of_getElem? (i := 568) (by decide +kernel)⟩
theorem lw_p29 : lw_okq (⟨"RollingBallsModel", "isPoint", "(II)Z"⟩, 15) := ⟨⟨by decide +kernel, by decide +kernel⟩, List.mem_of_getElem? (i := 646) (by decide +kernel), List.mem_of_getElem? (i := 709) (by decide +kernel), List.mem_of_getElem? (i := 710) (by decide +kernel)⟩
theorem lw_p30 : lw_okq (⟨"RollingBallsModel", "isPlace", "(II)Z"⟩, 15) := ⟨⟨by decide +kernel, by decide +kernel⟩, List.mem_of_getElem? (i := 646) (by decide +kernel), List.mem_of_getElem? (i := 727) (by decide +kernel), List.mem_of_getElem? (i := 728) (by decide +kernel)⟩
theorem lw_p31 : lw_okq (⟨"RollingBallsModel", "stand", "()V"⟩, 15) := ⟨⟨by decide +kernel, by decide +kernel⟩, List.mem_of_getElem? (i := 646) (by decide +kernel), List.mem_of_getElem? (i := 731) (by decide +kernel), List.mem_of_getElem? (i := 732) (by decide +kernel)⟩
def lw_privs_2 : List (MethodName × Nat) := [(⟨"RollingBalls$Plan", "setsBetterThan", "(II)I"⟩, 12), (⟨"RollingBalls$Plan", "setsThatMayLower", "(II)I"⟩, 12), (⟨"RollingBalls$Plan", "isWantedListed", "()Z"⟩, 12), (⟨"RollingBalls", "putRod", "(II)V"⟩, 7), (⟨"RollingBalls$Ball", "raiseTip", "(II)V"⟩, 12), (⟨"RollingBalls$Ball", "leave", "(III)V"⟩, 12), (⟨"RollingBalls$Ball", "countListed", "(I)V"⟩, 12), (⟨"RollingBalls$Ball", "lowerTip", "(II)V"⟩, 12), (⟨"RollingBalls$Ball", "settle", "(III)V"⟩, 12), (⟨"RollingBalls", "pointAt", "(II)I"⟩, 7), (⟨"java/lang/Throwable", "fillInStackTrace", "(I)Ljava/lang/Throwable;"⟩, 6), (⟨"RollingBalls", "needPlace", "(II)V"⟩, 7), (⟨"RollingBalls", "numberOf", "(I)I"⟩, 7), (⟨"RollingBallsModel", "isPoint", "(II)Z"⟩, 15), (⟨"RollingBallsModel", "isPlace", "(II)Z"⟩, 15), (⟨"RollingBallsModel", "stand", "()V"⟩, 15)]
theorem lw_r2 : ∀ q ∈ lw_privs_2, lw_okq q := List.forall_mem_cons.mpr ⟨lw_p16, List.forall_mem_cons.mpr ⟨lw_p17, List.forall_mem_cons.mpr ⟨lw_p18, List.forall_mem_cons.mpr ⟨lw_p19, List.forall_mem_cons.mpr ⟨lw_p20, List.forall_mem_cons.mpr ⟨lw_p21, List.forall_mem_cons.mpr ⟨lw_p22, List.forall_mem_cons.mpr ⟨lw_p23, List.forall_mem_cons.mpr ⟨lw_p24, List.forall_mem_cons.mpr ⟨lw_p25, List.forall_mem_cons.mpr ⟨lw_p26, List.forall_mem_cons.mpr ⟨lw_p27, List.forall_mem_cons.mpr ⟨lw_p28, List.forall_mem_cons.mpr ⟨lw_p29, List.forall_mem_cons.mpr ⟨lw_p30, List.forall_mem_cons.mpr ⟨lw_p31, fun _ h => absurd h List.not_mem_nil⟩⟩⟩⟩⟩⟩⟩⟩⟩⟩⟩⟩⟩⟩⟩⟩
theorem lw_p32 : lw_okq (⟨"RollingBallsModel", "restAt", "(II)V"⟩, 15) := ⟨⟨by decide +kernel, by decide +kernel⟩, List.mem_of_getElem? (i := 646) (by decide +kernel), List.mem_of_getElem? (i := 735) (by decide +kernel), List.mem_of_getElem? (i := 736) (by decide +kernel)⟩
theorem lw_p33 : lw_okq (⟨"RollingBallsModel", "placeAt", "(II)I"⟩, 15) := ⟨⟨by decide +kernel, by decide +kernel⟩, List.mem_of_getElem? (i := 646) (by decide +kernel), List.mem_of_getElem? (i := 739) (by decide +kernel), List.mem_of_getElem? (i := 740) (by decide +kernel)⟩
theorem lw_p34 : lw_okq (⟨"RollingBallsModel", "across", "()I"⟩, 15) := ⟨⟨by decide +kernel, by decide +kernel⟩, List.mem_of_getElem? (i := 646) (by decide +kernel), List.mem_of_getElem? (i := 743) (by decide +kernel), List.mem_of_getElem? (i := 744) (by decide +kernel)⟩
theorem lw_p35 : lw_okq (⟨"RollingBallsModel", "isNear", "(III)Z"⟩, 15) := ⟨⟨by decide +kernel, by decide +kernel⟩, List.mem_of_getElem? (i := 646) (by decide +kernel), List.mem_of_getElem? (i := 747) (by decide +kernel), List.mem_of_getElem? (i := 748) (by decide +kernel)⟩
theorem lw_p36 : lw_okq (⟨"RollingBallsModel", "distance", "(III)I"⟩, 15) := ⟨⟨by decide +kernel, by decide +kernel⟩, List.mem_of_getElem? (i := 646) (by decide +kernel), List.mem_of_getElem? (i := 751) (by decide +kernel), List.mem_of_getElem? (i := 752) (by decide +kernel)⟩
theorem lw_p37 : lw_okq (⟨"RollingBallsModel", "isTouched", "(III)Z"⟩, 15) := ⟨⟨by decide +kernel, by decide +kernel⟩, List.mem_of_getElem? (i := 646) (by decide +kernel), List.mem_of_getElem? (i := 761) (by decide +kernel), List.mem_of_getElem? (i := 762) (by decide +kernel)⟩
theorem lw_p38 : lw_okq (⟨"RollingBallsModel", "roll", "()V"⟩, 15) := ⟨⟨by decide +kernel, by decide +kernel⟩, List.mem_of_getElem? (i := 646) (by decide +kernel), List.mem_of_getElem? (i := 777) (by decide +kernel), List.mem_of_getElem? (i := 778) (by decide +kernel)⟩
theorem lw_p39 : lw_okq (⟨"RollingBallsModel", "places", "()I"⟩, 15) := ⟨⟨by decide +kernel, by decide +kernel⟩, List.mem_of_getElem? (i := 646) (by decide +kernel), List.mem_of_getElem? (i := 781) (by decide +kernel), List.mem_of_getElem? (i := 782) (by decide +kernel)⟩
theorem lw_p40 : lw_okq (⟨"RollingBallsModel", "isSafe", "(I)Z"⟩, 15) := ⟨⟨by decide +kernel, by decide +kernel⟩, List.mem_of_getElem? (i := 646) (by decide +kernel), List.mem_of_getElem? (i := 793) (by decide +kernel), List.mem_of_getElem? (i := 794) (by decide +kernel)⟩
theorem lw_p41 : lw_okq (⟨"RollingBallsModel", "manyOf", "(I)I"⟩, 15) := ⟨⟨by decide +kernel, by decide +kernel⟩, List.mem_of_getElem? (i := 646) (by decide +kernel), List.mem_of_getElem? (i := 817) (by decide +kernel), List.mem_of_getElem? (i := 818) (by decide +kernel)⟩
theorem lw_p42 : lw_okq (⟨"RollingBallsModel", "lengthOf", "(I)I"⟩, 15) := ⟨⟨by decide +kernel, by decide +kernel⟩, List.mem_of_getElem? (i := 646) (by decide +kernel), List.mem_of_getElem? (i := 821) (by decide +kernel), List.mem_of_getElem? (i := 822) (by decide +kernel)⟩
theorem lw_p43 : lw_okq (⟨"RollingBallsModel", "does", "(I)Z"⟩, 15) := ⟨⟨by decide +kernel, by decide +kernel⟩, List.mem_of_getElem? (i := 646) (by decide +kernel), List.mem_of_getElem? (i := 825) (by decide +kernel), List.mem_of_getElem? (i := 826) (by decide +kernel)⟩
def lw_privs_3 : List (MethodName × Nat) := [(⟨"RollingBallsModel", "restAt", "(II)V"⟩, 15), (⟨"RollingBallsModel", "placeAt", "(II)I"⟩, 15), (⟨"RollingBallsModel", "across", "()I"⟩, 15), (⟨"RollingBallsModel", "isNear", "(III)Z"⟩, 15), (⟨"RollingBallsModel", "distance", "(III)I"⟩, 15), (⟨"RollingBallsModel", "isTouched", "(III)Z"⟩, 15), (⟨"RollingBallsModel", "roll", "()V"⟩, 15), (⟨"RollingBallsModel", "places", "()I"⟩, 15), (⟨"RollingBallsModel", "isSafe", "(I)Z"⟩, 15), (⟨"RollingBallsModel", "manyOf", "(I)I"⟩, 15), (⟨"RollingBallsModel", "lengthOf", "(I)I"⟩, 15), (⟨"RollingBallsModel", "does", "(I)Z"⟩, 15)]
theorem lw_r3 : ∀ q ∈ lw_privs_3, lw_okq q := List.forall_mem_cons.mpr ⟨lw_p32, List.forall_mem_cons.mpr ⟨lw_p33, List.forall_mem_cons.mpr ⟨lw_p34, List.forall_mem_cons.mpr ⟨lw_p35, List.forall_mem_cons.mpr ⟨lw_p36, List.forall_mem_cons.mpr ⟨lw_p37, List.forall_mem_cons.mpr ⟨lw_p38, List.forall_mem_cons.mpr ⟨lw_p39, List.forall_mem_cons.mpr ⟨lw_p40, List.forall_mem_cons.mpr ⟨lw_p41, List.forall_mem_cons.mpr ⟨lw_p42, List.forall_mem_cons.mpr ⟨lw_p43, fun _ h => absurd h List.not_mem_nil⟩⟩⟩⟩⟩⟩⟩⟩⟩⟩⟩⟩
def lw_privs : List (MethodName × Nat) := lw_privs_1 ++ (lw_privs_2 ++ (lw_privs_3))
def lw_tbl : List Cond := k2_sels lw_privs ++ tables_1
theorem lw_privs_ok : ∀ q ∈ lw_privs, lw_okq q := by
  show ∀ q ∈ lw_privs_1 ++ (lw_privs_2 ++ (lw_privs_3)), lw_okq q
  exact List.forall_mem_append.mpr ⟨lw_r1, List.forall_mem_append.mpr ⟨lw_r2, lw_r3⟩⟩

/-! names: classes, their fields, their methods (out of javap's listing and the tables) -/
def gT : List Cond := lw_tbl.filter goodWord
theorem gw_all : ∀ w ∈ gT, goodWord w = true := fun w h => (List.mem_filter.mp h).2
theorem gw_lw : ∀ w ∈ gT, w ∈ lw_tbl := fun w h => (List.mem_filter.mp h).1
theorem gw_in {c1 : Cond} {S : List Cond} (h : ∀ w ∈ S, w ∈ gT) : GoodIn (c1 :: gT) S := fun w hw => ⟨List.mem_cons_of_mem _ (h w hw), good_of_word (gw_all w (h w hw))⟩
theorem gw_V {c1 cd : Cond} {own C : String} {idx : Nat} {y : MethodName} (h1 : .methodLink own idx y ∈ gT) (h2 : .instanceMethod y ∈ gT) (h3 : .selects C y y ∈ gT) (h4 : .initialized C ∈ gT) (h5 : cd ∈ gT) : GoodIn (c1 :: gT) (wsV own idx C y (cd :: gT)) := gw_in (fun w hw => by
  simp only [wsV, List.cons_append, List.nil_append, List.mem_cons] at hw
  rcases hw with rfl | rfl | rfl | rfl | rfl | hw
  · exact h1
  · exact h2
  · exact h3
  · exact h4
  · exact h5
  · exact hw)
theorem gw_S {c1 cd : Cond} {own : String} {idx : Nat} {y : MethodName} (h1 : .methodLink own idx y ∈ gT) (h2 : .static y ∈ gT) (h3 : .initialized y.cls ∈ gT) (h5 : cd ∈ gT) : GoodIn (c1 :: gT) (va_wsS own idx y (cd :: gT)) := gw_in (fun w hw => by
  simp only [va_wsS, List.cons_append, List.nil_append, List.mem_cons] at hw
  rcases hw with rfl | rfl | rfl | rfl | hw
  · exact h1
  · exact h2
  · exact h3
  · exact h5
  · exact hw)
theorem gw_I {c1 cd : Cond} (h5 : cd ∈ gT) : GoodIn (c1 :: gT) (cd :: gT) := gw_in (fun w hw => (List.mem_cons.mp hw).elim (fun e => e ▸ h5) id)
theorem gw_up {c1 : Cond} {S : List Cond} (h : ∀ w ∈ S, w ∈ gT) : ∀ w ∈ S, w ∈ c1 :: gT := fun w hw => List.mem_cons_of_mem _ (h w hw)
def RRB : String := "RollingBalls"
def TRB : u_T := fun k => match k with
  | 0 => ("RollingBalls", "w", "I", true)
  | 1 => ("RollingBalls", "d", "I", true)
  | 2 => ("RollingBalls", "\x72", "I", true)
  | 3 => ("RollingBalls", "house", "LRollingBalls$House;", true)
  | 4 => ("RollingBalls", "ball", "LRollingBalls$Ball;", true)
  | 5 => ("RollingBalls", "plan", "LRollingBalls$Plan;", true)
  | _ => ("RollingBalls", "safeBefore", "[Z", true)
def tyRB : Nat → FieldType := fun k => match k with
  | 0 => .int
  | 1 => .int
  | 2 => .int
  | 3 => .object "RollingBalls$House"
  | 4 => .object "RollingBalls$Ball"
  | 5 => .object "RollingBalls$Plan"
  | _ => .array .boolean
theorem nmRB : ∀ a, a < 7 → ∀ b, b < 7 → a ≠ b → (TRB a).2.1 ≠ (TRB b).2.1 := by decide +kernel
theorem tyRB_ok : ∀ k, k < 7 → parseFieldDescriptor (TRB k).2.2.1 = some (tyRB k) := by decide +kernel
theorem inRB0 : ∀ w ∈ u_ws RRB TRB 7, w ∈ gT := by decide +kernel
theorem inRB {c1 : Cond} : ∀ w ∈ u_ws RRB TRB 7, w ∈ c1 :: gT := gw_up inRB0
def RBA : String := "RollingBalls$Ball"
def TBA : u_T := fun k => match k with
  | 0 => ("RollingBalls$Ball", "shadow", "LRollingBalls$Shadow;", true)
  | 1 => ("RollingBalls$Ball", "homes", "[I", true)
  | 2 => ("RollingBalls$Ball", "rests", "[I", true)
  | 3 => ("RollingBalls$Ball", "ground", "I", true)
  | 4 => ("RollingBalls$Ball", "owners", "[I", true)
  | 5 => ("RollingBalls$Ball", "hitCounts", "[I", true)
  | 6 => ("RollingBalls$Ball", "listed", "[I", true)
  | 7 => ("RollingBalls$Ball", "listedCount", "I", false)
  | 8 => ("RollingBalls$Ball", "house", "LRollingBalls$House;", true)
  | 9 => ("RollingBalls$Ball", "\x72", "I", true)
  | 10 => ("RollingBalls$Ball", "placesAcross", "I", true)
  | _ => ("RollingBalls$Ball", "touchCounts", "[I", true)
def tyBA : Nat → FieldType := fun k => match k with
  | 0 => .object "RollingBalls$Shadow"
  | 1 => .array .int
  | 2 => .array .int
  | 3 => .int
  | 4 => .array .int
  | 5 => .array .int
  | 6 => .array .int
  | 7 => .int
  | 8 => .object "RollingBalls$House"
  | 9 => .int
  | 10 => .int
  | _ => .array .int
theorem nmBA : ∀ a, a < 12 → ∀ b, b < 12 → a ≠ b → (TBA a).2.1 ≠ (TBA b).2.1 := by decide +kernel
theorem tyBA_ok : ∀ k, k < 12 → parseFieldDescriptor (TBA k).2.2.1 = some (tyBA k) := by decide +kernel
theorem inBA0 : ∀ w ∈ u_ws RBA TBA 12, w ∈ gT := by decide +kernel
theorem inBA {c1 : Cond} : ∀ w ∈ u_ws RBA TBA 12, w ∈ c1 :: gT := gw_up inBA0
def RHO : String := "RollingBalls$House"
def THO : u_T := fun k => match k with
  | 0 => ("RollingBalls$House", "w", "I", true)
  | 1 => ("RollingBalls$House", "d", "I", true)
  | 2 => ("RollingBalls$House", "points", "I", true)
  | 3 => ("RollingBalls$House", "columns", "[I", true)
  | 4 => ("RollingBalls$House", "rows", "[I", true)
  | 5 => ("RollingBalls$House", "heights", "[I", true)
  | 6 => ("RollingBalls$House", "rods", "[I", true)
  | 7 => ("RollingBalls$House", "tips", "[I", true)
  | _ => ("RollingBalls$House", "rowTops", "[I", true)
def tyHO : Nat → FieldType := fun k => match k with
  | 0 => .int
  | 1 => .int
  | 2 => .int
  | 3 => .array .int
  | 4 => .array .int
  | 5 => .array .int
  | 6 => .array .int
  | 7 => .array .int
  | _ => .array .int
theorem nmHO : ∀ a, a < 9 → ∀ b, b < 9 → a ≠ b → (THO a).2.1 ≠ (THO b).2.1 := by decide +kernel
theorem tyHO_ok : ∀ k, k < 9 → parseFieldDescriptor (THO k).2.2.1 = some (tyHO k) := by decide +kernel
theorem inHO0 : ∀ w ∈ u_ws RHO THO 9, w ∈ gT := by decide +kernel
theorem inHO {c1 : Cond} : ∀ w ∈ u_ws RHO THO 9, w ∈ c1 :: gT := gw_up inHO0
def RSH : String := "RollingBalls$Shadow"
def TSH : u_T := fun k => match k with
  | 0 => ("RollingBalls$Shadow", "size", "I", true)
  | 1 => ("RollingBalls$Shadow", "across", "[I", true)
  | 2 => ("RollingBalls$Shadow", "along", "[I", true)
  | 3 => ("RollingBalls$Shadow", "strides", "[I", true)
  | 4 => ("RollingBalls$Shadow", "lifts", "[I", true)
  | 5 => ("RollingBalls$Shadow", "square", "[I", true)
  | _ => ("RollingBalls$Shadow", "side", "I", true)
def tySH : Nat → FieldType := fun k => match k with
  | 0 => .int
  | 1 => .array .int
  | 2 => .array .int
  | 3 => .array .int
  | 4 => .array .int
  | 5 => .array .int
  | _ => .int
theorem nmSH : ∀ a, a < 7 → ∀ b, b < 7 → a ≠ b → (TSH a).2.1 ≠ (TSH b).2.1 := by decide +kernel
theorem tySH_ok : ∀ k, k < 7 → parseFieldDescriptor (TSH k).2.2.1 = some (tySH k) := by decide +kernel
theorem inSH0 : ∀ w ∈ u_ws RSH TSH 7, w ∈ gT := by decide +kernel
theorem inSH {c1 : Cond} : ∀ w ∈ u_ws RSH TSH 7, w ∈ c1 :: gT := gw_up inSH0
def RPL : String := "RollingBalls$Plan"
def TPL : u_T := fun k => match k with
  | 0 => ("RollingBalls$Plan", "candidatePoints", "[I", true)
  | 1 => ("RollingBalls$Plan", "candidateLengths", "[I", true)
  | 2 => ("RollingBalls$Plan", "candidates", "I", false)
  | 3 => ("RollingBalls$Plan", "wanted", "[Z", true)
  | 4 => ("RollingBalls$Plan", "house", "LRollingBalls$House;", true)
  | 5 => ("RollingBalls$Plan", "ball", "LRollingBalls$Ball;", true)
  | 6 => ("RollingBalls$Plan", "choicePoints", "[I", true)
  | 7 => ("RollingBalls$Plan", "choiceTips", "[I", true)
  | 8 => ("RollingBalls$Plan", "choiceSets", "[I", true)
  | 9 => ("RollingBalls$Plan", "choices", "I", false)
  | 10 => ("RollingBalls$Plan", "sinkingSets", "I", false)
  | _ => ("RollingBalls$Plan", "lowTips", "[I", true)
def tyPL : Nat → FieldType := fun k => match k with
  | 0 => .array .int
  | 1 => .array .int
  | 2 => .int
  | 3 => .array .boolean
  | 4 => .object "RollingBalls$House"
  | 5 => .object "RollingBalls$Ball"
  | 6 => .array .int
  | 7 => .array .int
  | 8 => .array .int
  | 9 => .int
  | 10 => .int
  | _ => .array .int
theorem nmPL : ∀ a, a < 12 → ∀ b, b < 12 → a ≠ b → (TPL a).2.1 ≠ (TPL b).2.1 := by decide +kernel
theorem tyPL_ok : ∀ k, k < 12 → parseFieldDescriptor (TPL k).2.2.1 = some (tyPL k) := by decide +kernel
theorem inPL0 : ∀ w ∈ u_ws RPL TPL 12, w ∈ gT := by decide +kernel
theorem inPL {c1 : Cond} : ∀ w ∈ u_ws RPL TPL 12, w ∈ c1 :: gT := gw_up inPL0
def RMO : String := "RollingBallsModel"
def TMO : u_T := fun k => match k with
  | 0 => ("RollingBallsModel", "code", "I", false)
  | 1 => ("RollingBallsModel", "wide", "I", true)
  | 2 => ("RollingBallsModel", "deep", "I", true)
  | 3 => ("RollingBallsModel", "radius", "I", true)
  | 4 => ("RollingBallsModel", "heights", "[I", true)
  | 5 => ("RollingBallsModel", "rods", "[I", true)
  | 6 => ("RollingBallsModel", "tips", "[I", true)
  | 7 => ("RollingBallsModel", "wanted", "[Z", true)
  | 8 => ("RollingBallsModel", "may", "I", false)
  | 9 => ("RollingBallsModel", "mayPoint", "[I", true)
  | 10 => ("RollingBallsModel", "mayLength", "[I", true)
  | 11 => ("RollingBallsModel", "whole", "[I", true)
  | 12 => ("RollingBallsModel", "square", "[I", true)
  | 13 => ("RollingBallsModel", "hits", "[I", true)
  | _ => ("RollingBallsModel", "wasSafe", "[Z", true)
def tyMO : Nat → FieldType := fun k => match k with
  | 0 => .int
  | 1 => .int
  | 2 => .int
  | 3 => .int
  | 4 => .array .int
  | 5 => .array .int
  | 6 => .array .int
  | 7 => .array .boolean
  | 8 => .int
  | 9 => .array .int
  | 10 => .array .int
  | 11 => .array .int
  | 12 => .array .int
  | 13 => .array .int
  | _ => .array .boolean
theorem nmMO : ∀ a, a < 15 → ∀ b, b < 15 → a ≠ b → (TMO a).2.1 ≠ (TMO b).2.1 := by decide +kernel
theorem tyMO_ok : ∀ k, k < 15 → parseFieldDescriptor (TMO k).2.2.1 = some (tyMO k) := by decide +kernel
theorem inMO0 : ∀ w ∈ u_ws RMO TMO 15, w ∈ gT := by decide +kernel
theorem inMO {c1 : Cond} : ∀ w ∈ u_ws RMO TMO 15, w ∈ c1 :: gT := gw_up inMO0
def RLE : String := "RollingBalls$Level"
def RLW : String := "RollingBallsLaw"
def RJA : String := "java/util/Arrays"
def RJI : String := "java/lang/Integer"
abbrev vwCl : List vw_C := [(RRB, TRB, 7), (RBA, TBA, 12), (RHO, THO, 9), (RSH, TSH, 7), (RPL, TPL, 12), (RMO, TMO, 15)]
abbrev cRB_init : ByteArray := prog_1_method_1_code
def yRB_init : MethodName := ⟨RRB, "<init>", "(III)V"⟩
def wsRB_init : List Cond := .code yRB_init cRB_init 4 none :: gT
abbrev cRB_height : ByteArray := prog_1_method_2_code
def yRB_height : MethodName := ⟨RRB, "height", "(III)I"⟩
def wsRB_height : List Cond := .code yRB_height cRB_height 6 (some .int) :: gT
abbrev cRB_rod : ByteArray := prog_1_method_3_code
def yRB_rod : MethodName := ⟨RRB, "rod", "(III)I"⟩
def wsRB_rod : List Cond := .code yRB_rod cRB_rod 6 (some .int) :: gT
abbrev cRB_rest : ByteArray := prog_1_method_4_code
def yRB_rest : MethodName := ⟨RRB, "rest", "(III)I"⟩
def wsRB_rest : List Cond := .code yRB_rest cRB_rest 5 (some .int) :: gT
abbrev cRB_touched : ByteArray := prog_1_method_5_code
def yRB_touched : MethodName := ⟨RRB, "touched", "(III)I"⟩
def wsRB_touched : List Cond := .code yRB_touched cRB_touched 4 (some .int) :: gT
abbrev cRB_higher : ByteArray := prog_1_method_6_code
def yRB_higher : MethodName := ⟨RRB, "higher", "(IIII)I"⟩
def wsRB_higher : List Cond := .code yRB_higher cRB_higher 5 (some .int) :: gT
abbrev cRB_tops : ByteArray := prog_1_method_7_code
def yRB_tops : MethodName := ⟨RRB, "tops", "()I"⟩
def wsRB_tops : List Cond := .code yRB_tops cRB_tops 1 (some .int) :: gT
abbrev cRB_hits : ByteArray := prog_1_method_8_code
def yRB_hits : MethodName := ⟨RRB, "hits", "(II)I"⟩
def wsRB_hits : List Cond := .code yRB_hits cRB_hits 3 (some .int) :: gT
abbrev cRB_safe : ByteArray := prog_1_method_9_code
def yRB_safe : MethodName := ⟨RRB, "safe", "(I)I"⟩
def wsRB_safe : List Cond := .code yRB_safe cRB_safe 4 (some .int) :: gT
abbrev cRB_cover : ByteArray := prog_1_method_10_code
def yRB_cover : MethodName := ⟨RRB, "cover", "(II)I"⟩
def wsRB_cover : List Cond := .code yRB_cover cRB_cover 3 (some .int) :: gT
abbrev cRB_may : ByteArray := prog_1_method_11_code
def yRB_may : MethodName := ⟨RRB, "may", "(III)I"⟩
def wsRB_may : List Cond := .code yRB_may cRB_may 5 (some .int) :: gT
abbrev cRB_forget : ByteArray := prog_1_method_12_code
def yRB_forget : MethodName := ⟨RRB, "forget", "()I"⟩
def wsRB_forget : List Cond := .code yRB_forget cRB_forget 2 (some .int) :: gT
abbrev cRB_want : ByteArray := prog_1_method_13_code
def yRB_want : MethodName := ⟨RRB, "want", "(IIZ)Z"⟩
def wsRB_want : List Cond := .code yRB_want cRB_want 6 (some .boolean) :: gT
abbrev cRB_choose : ByteArray := prog_1_method_14_code
def yRB_choose : MethodName := ⟨RRB, "choose", "()I"⟩
def wsRB_choose : List Cond := .code yRB_choose cRB_choose 1 (some .int) :: gT
abbrev cRB_put : ByteArray := prog_1_method_15_code
def yRB_put : MethodName := ⟨RRB, "put", "(I)I"⟩
def wsRB_put : List Cond := .code yRB_put cRB_put 4 (some .int) :: gT
abbrev cRB_putRod : ByteArray := prog_1_method_16_code
def yRB_putRod : MethodName := ⟨RRB, "putRod", "(II)V"⟩
def wsRB_putRod : List Cond := .code yRB_putRod cRB_putRod 3 none :: gT
abbrev cRB_numberOf : ByteArray := prog_1_method_17_code
def yRB_numberOf : MethodName := ⟨RRB, "numberOf", "(I)I"⟩
def wsRB_numberOf : List Cond := .code yRB_numberOf cRB_numberOf 2 (some .int) :: gT
abbrev cRB_pointAt : ByteArray := prog_1_method_18_code
def yRB_pointAt : MethodName := ⟨RRB, "pointAt", "(II)I"⟩
def wsRB_pointAt : List Cond := .code yRB_pointAt cRB_pointAt 3 (some .int) :: gT
abbrev cRB_needPlace : ByteArray := prog_1_method_19_code
def yRB_needPlace : MethodName := ⟨RRB, "needPlace", "(II)V"⟩
def wsRB_needPlace : List Cond := .code yRB_needPlace cRB_needPlace 3 none :: gT
abbrev cRB_needIndex : ByteArray := prog_1_method_20_code
def yRB_needIndex : MethodName := ⟨RRB, "needIndex", "(I)V"⟩
def wsRB_needIndex : List Cond := .code yRB_needIndex cRB_needIndex 1 none :: gT
abbrev cRB_needNumber : ByteArray := prog_1_method_21_code
def yRB_needNumber : MethodName := ⟨RRB, "needNumber", "(III)V"⟩
def wsRB_needNumber : List Cond := .code yRB_needNumber cRB_needNumber 3 none :: gT
abbrev cRB_between : ByteArray := prog_1_method_22_code
def yRB_between : MethodName := ⟨RRB, "between", "(III)I"⟩
def wsRB_between : List Cond := .code yRB_between cRB_between 3 (some .int) :: gT
abbrev cMO_init : ByteArray := prog_8_method_1_code
def yMO_init : MethodName := ⟨RMO, "<init>", "(III)V"⟩
def wsMO_init : List Cond := .code yMO_init cMO_init 4 none :: gT
abbrev cMO_nearest : ByteArray := prog_8_method_2_code
def yMO_nearest : MethodName := ⟨RMO, "nearest", "(II)I"⟩
def wsMO_nearest : List Cond := .code yMO_nearest cMO_nearest 2 (some .int) :: gT
abbrev cMO_thrown : ByteArray := prog_8_method_3_code
def yMO_thrown : MethodName := ⟨RMO, "thrown", "()I"⟩
def wsMO_thrown : List Cond := .code yMO_thrown cMO_thrown 1 (some .int) :: gT
abbrev cMO_in : ByteArray := prog_8_method_4_code
def yMO_in : MethodName := ⟨RMO, "in", "(III)Z"⟩
def wsMO_in : List Cond := .code yMO_in cMO_in 3 (some .boolean) :: gT
abbrev cMO_isPoint : ByteArray := prog_8_method_5_code
def yMO_isPoint : MethodName := ⟨RMO, "isPoint", "(II)Z"⟩
def wsMO_isPoint : List Cond := .code yMO_isPoint cMO_isPoint 3 (some .boolean) :: gT
abbrev cMO_isPlace : ByteArray := prog_8_method_6_code
def yMO_isPlace : MethodName := ⟨RMO, "isPlace", "(II)Z"⟩
def wsMO_isPlace : List Cond := .code yMO_isPlace cMO_isPlace 3 (some .boolean) :: gT
abbrev cMO_spot : ByteArray := prog_8_method_7_code
def yMO_spot : MethodName := ⟨RMO, "spot", "(II)I"⟩
def wsMO_spot : List Cond := .code yMO_spot cMO_spot 2 (some .int) :: gT
abbrev cMO_across : ByteArray := prog_8_method_8_code
def yMO_across : MethodName := ⟨RMO, "across", "()I"⟩
def wsMO_across : List Cond := .code yMO_across cMO_across 1 (some .int) :: gT
abbrev cMO_places : ByteArray := prog_8_method_9_code
def yMO_places : MethodName := ⟨RMO, "places", "()I"⟩
def wsMO_places : List Cond := .code yMO_places cMO_places 1 (some .int) :: gT
abbrev cMO_placeAt : ByteArray := prog_8_method_10_code
def yMO_placeAt : MethodName := ⟨RMO, "placeAt", "(II)I"⟩
def wsMO_placeAt : List Cond := .code yMO_placeAt cMO_placeAt 3 (some .int) :: gT
abbrev cMO_compare : ByteArray := prog_8_method_11_code
def yMO_compare : MethodName := ⟨RMO, "compare", "(IIII)I"⟩
def wsMO_compare : List Cond := .code yMO_compare cMO_compare 8 (some .int) :: gT
abbrev cMO_rootOf : ByteArray := prog_8_method_12_code
def yMO_rootOf : MethodName := ⟨RMO, "rootOf", "(I)I"⟩
def wsMO_rootOf : List Cond := .code yMO_rootOf cMO_rootOf 2 (some .int) :: gT
abbrev cMO_distance : ByteArray := prog_8_method_13_code
def yMO_distance : MethodName := ⟨RMO, "distance", "(III)I"⟩
def wsMO_distance : List Cond := .code yMO_distance cMO_distance 6 (some .int) :: gT
abbrev cMO_isNear : ByteArray := prog_8_method_14_code
def yMO_isNear : MethodName := ⟨RMO, "isNear", "(III)Z"⟩
def wsMO_isNear : List Cond := .code yMO_isNear cMO_isNear 4 (some .boolean) :: gT
abbrev cMO_restAt : ByteArray := prog_8_method_15_code
def yMO_restAt : MethodName := ⟨RMO, "restAt", "(II)V"⟩
def wsMO_restAt : List Cond := .code yMO_restAt cMO_restAt 6 none :: gT
abbrev cMO_isTouched : ByteArray := prog_8_method_16_code
def yMO_isTouched : MethodName := ⟨RMO, "isTouched", "(III)Z"⟩
def wsMO_isTouched : List Cond := .code yMO_isTouched cMO_isTouched 5 (some .boolean) :: gT
abbrev cMO_stand : ByteArray := prog_8_method_17_code
def yMO_stand : MethodName := ⟨RMO, "stand", "()V"⟩
def wsMO_stand : List Cond := .code yMO_stand cMO_stand 2 none :: gT
abbrev cMO_roll : ByteArray := prog_8_method_18_code
def yMO_roll : MethodName := ⟨RMO, "roll", "()V"⟩
def wsMO_roll : List Cond := .code yMO_roll cMO_roll 4 none :: gT
abbrev cMO_height : ByteArray := prog_8_method_19_code
def yMO_height : MethodName := ⟨RMO, "height", "(III)I"⟩
def wsMO_height : List Cond := .code yMO_height cMO_height 5 (some .int) :: gT
abbrev cMO_rod : ByteArray := prog_8_method_20_code
def yMO_rod : MethodName := ⟨RMO, "rod", "(III)I"⟩
def wsMO_rod : List Cond := .code yMO_rod cMO_rod 5 (some .int) :: gT
abbrev cMO_rest : ByteArray := prog_8_method_21_code
def yMO_rest : MethodName := ⟨RMO, "rest", "(III)I"⟩
def wsMO_rest : List Cond := .code yMO_rest cMO_rest 8 (some .int) :: gT
abbrev cMO_touched : ByteArray := prog_8_method_22_code
def yMO_touched : MethodName := ⟨RMO, "touched", "(III)I"⟩
def wsMO_touched : List Cond := .code yMO_touched cMO_touched 6 (some .int) :: gT
abbrev cMO_higher : ByteArray := prog_8_method_23_code
def yMO_higher : MethodName := ⟨RMO, "higher", "(IIII)I"⟩
def wsMO_higher : List Cond := .code yMO_higher cMO_higher 7 (some .int) :: gT
abbrev cMO_tops : ByteArray := prog_8_method_24_code
def yMO_tops : MethodName := ⟨RMO, "tops", "()I"⟩
def wsMO_tops : List Cond := .code yMO_tops cMO_tops 5 (some .int) :: gT
abbrev cMO_hits : ByteArray := prog_8_method_25_code
def yMO_hits : MethodName := ⟨RMO, "hits", "(II)I"⟩
def wsMO_hits : List Cond := .code yMO_hits cMO_hits 3 (some .int) :: gT
abbrev cMO_isSafe : ByteArray := prog_8_method_26_code
def yMO_isSafe : MethodName := ⟨RMO, "isSafe", "(I)Z"⟩
def wsMO_isSafe : List Cond := .code yMO_isSafe cMO_isSafe 2 (some .boolean) :: gT
abbrev cMO_safe : ByteArray := prog_8_method_27_code
def yMO_safe : MethodName := ⟨RMO, "safe", "(I)I"⟩
def wsMO_safe : List Cond := .code yMO_safe cMO_safe 4 (some .int) :: gT
abbrev cMO_cover : ByteArray := prog_8_method_28_code
def yMO_cover : MethodName := ⟨RMO, "cover", "(II)I"⟩
def wsMO_cover : List Cond := .code yMO_cover cMO_cover 10 (some .int) :: gT
abbrev cMO_may : ByteArray := prog_8_method_29_code
def yMO_may : MethodName := ⟨RMO, "may", "(III)I"⟩
def wsMO_may : List Cond := .code yMO_may cMO_may 4 (some .int) :: gT
abbrev cMO_forget : ByteArray := prog_8_method_30_code
def yMO_forget : MethodName := ⟨RMO, "forget", "()I"⟩
def wsMO_forget : List Cond := .code yMO_forget cMO_forget 2 (some .int) :: gT
abbrev cMO_want : ByteArray := prog_8_method_31_code
def yMO_want : MethodName := ⟨RMO, "want", "(IIZ)Z"⟩
def wsMO_want : List Cond := .code yMO_want cMO_want 5 (some .boolean) :: gT
abbrev cMO_does : ByteArray := prog_8_method_32_code
def yMO_does : MethodName := ⟨RMO, "does", "(I)Z"⟩
def wsMO_does : List Cond := .code yMO_does cMO_does 4 (some .boolean) :: gT
abbrev cMO_manyOf : ByteArray := prog_8_method_33_code
def yMO_manyOf : MethodName := ⟨RMO, "manyOf", "(I)I"⟩
def wsMO_manyOf : List Cond := .code yMO_manyOf cMO_manyOf 2 (some .int) :: gT
abbrev cMO_lengthOf : ByteArray := prog_8_method_34_code
def yMO_lengthOf : MethodName := ⟨RMO, "lengthOf", "(I)I"⟩
def wsMO_lengthOf : List Cond := .code yMO_lengthOf cMO_lengthOf 4 (some .int) :: gT
abbrev cMO_choose : ByteArray := prog_8_method_35_code
def yMO_choose : MethodName := ⟨RMO, "choose", "()I"⟩
def wsMO_choose : List Cond := .code yMO_choose cMO_choose 4 (some .int) :: gT
abbrev cMO_put : ByteArray := prog_8_method_36_code
def yMO_put : MethodName := ⟨RMO, "put", "(I)I"⟩
def wsMO_put : List Cond := .code yMO_put cMO_put 4 (some .int) :: gT
abbrev cBA_init : ByteArray := prog_2_method_1_code
def yBA_init : MethodName := ⟨RBA, "<init>", "(LRollingBalls$House;I)V"⟩
def wsBA_init : List Cond := .code yBA_init cBA_init 5 none :: gT
abbrev cBA_restAt : ByteArray := prog_2_method_2_code
def yBA_restAt : MethodName := ⟨RBA, "restAt", "(II)I"⟩
def wsBA_restAt : List Cond := .code yBA_restAt cBA_restAt 3 (some .int) :: gT
abbrev cBA_countTouched : ByteArray := prog_2_method_3_code
def yBA_countTouched : MethodName := ⟨RBA, "countTouched", "(II)I"⟩
def wsBA_countTouched : List Cond := .code yBA_countTouched cBA_countTouched 3 (some .int) :: gT
abbrev cBA_listTouched : ByteArray := prog_2_method_4_code
def yBA_listTouched : MethodName := ⟨RBA, "listTouched", "(II)V"⟩
def wsBA_listTouched : List Cond := .code yBA_listTouched cBA_listTouched 3 none :: gT
abbrev cBA_isSafe : ByteArray := prog_2_method_5_code
def yBA_isSafe : MethodName := ⟨RBA, "isSafe", "(I)Z"⟩
def wsBA_isSafe : List Cond := .code yBA_isSafe cBA_isSafe 2 (some .boolean) :: gT
abbrev cBA_countHighestPlaces : ByteArray := prog_2_method_6_code
def yBA_countHighestPlaces : MethodName := ⟨RBA, "countHighestPlaces", "()I"⟩
def wsBA_countHighestPlaces : List Cond := .code yBA_countHighestPlaces cBA_countHighestPlaces 7 (some .int) :: gT
abbrev cBA_coverOf : ByteArray := prog_2_method_7_code
def yBA_coverOf : MethodName := ⟨RBA, "coverOf", "(I)I"⟩
def wsBA_coverOf : List Cond := .code yBA_coverOf cBA_coverOf 5 (some .int) :: gT
abbrev cBA_moveTip : ByteArray := prog_2_method_8_code
def yBA_moveTip : MethodName := ⟨RBA, "moveTip", "(II)V"⟩
def wsBA_moveTip : List Cond := .code yBA_moveTip cBA_moveTip 4 none :: gT
abbrev cBA_raiseTip : ByteArray := prog_2_method_9_code
def yBA_raiseTip : MethodName := ⟨RBA, "raiseTip", "(II)V"⟩
def wsBA_raiseTip : List Cond := .code yBA_raiseTip cBA_raiseTip 9 none :: gT
abbrev cBA_leave : ByteArray := prog_2_method_10_code
def yBA_leave : MethodName := ⟨RBA, "leave", "(III)V"⟩
def wsBA_leave : List Cond := .code yBA_leave cBA_leave 5 none :: gT
abbrev cBA_lowerTip : ByteArray := prog_2_method_11_code
def yBA_lowerTip : MethodName := ⟨RBA, "lowerTip", "(II)V"⟩
def wsBA_lowerTip : List Cond := .code yBA_lowerTip cBA_lowerTip 10 none :: gT
abbrev cBA_settle : ByteArray := prog_2_method_12_code
def yBA_settle : MethodName := ⟨RBA, "settle", "(III)V"⟩
def wsBA_settle : List Cond := .code yBA_settle cBA_settle 4 none :: gT
abbrev cBA_countListed : ByteArray := prog_2_method_13_code
def yBA_countListed : MethodName := ⟨RBA, "countListed", "(I)V"⟩
def wsBA_countListed : List Cond := .code yBA_countListed cBA_countListed 3 none :: gT
abbrev cBA_liftOver : ByteArray := prog_2_method_14_code
def yBA_liftOver : MethodName := ⟨RBA, "liftOver", "(III)I"⟩
def wsBA_liftOver : List Cond := .code yBA_liftOver cBA_liftOver 7 (some .int) :: gT
abbrev cBA_climb : ByteArray := prog_2_method_15_code
def yBA_climb : MethodName := ⟨RBA, "climb", "([IIII)I"⟩
def wsBA_climb : List Cond := .code yBA_climb cBA_climb 22 (some .int) :: gT
abbrev cBA_placeIndex : ByteArray := prog_2_method_16_code
def yBA_placeIndex : MethodName := ⟨RBA, "placeIndex", "(II)I"⟩
def wsBA_placeIndex : List Cond := .code yBA_placeIndex cBA_placeIndex 3 (some .int) :: gT
abbrev cHO_init : ByteArray := prog_3_method_1_code
def yHO_init : MethodName := ⟨RHO, "<init>", "(II)V"⟩
def wsHO_init : List Cond := .code yHO_init cHO_init 5 none :: gT
abbrev cHO_tipWith : ByteArray := prog_3_method_2_code
def yHO_tipWith : MethodName := ⟨RHO, "tipWith", "(II)I"⟩
def wsHO_tipWith : List Cond := .code yHO_tipWith cHO_tipWith 3 (some .int) :: gT
abbrev cHO_setTip : ByteArray := prog_3_method_3_code
def yHO_setTip : MethodName := ⟨RHO, "setTip", "(II)V"⟩
def wsHO_setTip : List Cond := .code yHO_setTip cHO_setTip 6 none :: gT
abbrev cLE_floor : ByteArray := prog_4_method_2_code
def yLE_floor : MethodName := ⟨RLE, "floor", "(I)I"⟩
def wsLE_floor : List Cond := .code yLE_floor cLE_floor 1 (some .int) :: gT
abbrev cLE_isWhole : ByteArray := prog_4_method_3_code
def yLE_isWhole : MethodName := ⟨RLE, "isWhole", "(I)Z"⟩
def wsLE_isWhole : List Cond := .code yLE_isWhole cLE_isWhole 1 (some .boolean) :: gT
abbrev cPL_init : ByteArray := prog_5_method_1_code
def yPL_init : MethodName := ⟨RPL, "<init>", "(LRollingBalls$House;LRollingBalls$Ball;)V"⟩
def wsPL_init : List Cond := .code yPL_init cPL_init 3 none :: gT
abbrev cPL_holds : ByteArray := prog_5_method_2_code
def yPL_holds : MethodName := ⟨RPL, "holds", "(II)Z"⟩
def wsPL_holds : List Cond := .code yPL_holds cPL_holds 2 (some .boolean) :: gT
abbrev cPL_isFull : ByteArray := prog_5_method_3_code
def yPL_isFull : MethodName := ⟨RPL, "isFull", "()Z"⟩
def wsPL_isFull : List Cond := .code yPL_isFull cPL_isFull 1 (some .boolean) :: gT
abbrev cPL_add : ByteArray := prog_5_method_4_code
def yPL_add : MethodName := ⟨RPL, "add", "(II)V"⟩
def wsPL_add : List Cond := .code yPL_add cPL_add 3 none :: gT
abbrev cPL_bestSet : ByteArray := prog_5_method_5_code
def yPL_bestSet : MethodName := ⟨RPL, "bestSet", "()I"⟩
def wsPL_bestSet : List Cond := .code yPL_bestSet cPL_bestSet 4 (some .int) :: gT
abbrev cPL_areWantedSafe : ByteArray := prog_5_method_6_code
def yPL_areWantedSafe : MethodName := ⟨RPL, "areWantedSafe", "()Z"⟩
def wsPL_areWantedSafe : List Cond := .code yPL_areWantedSafe cPL_areWantedSafe 2 (some .boolean) :: gT
abbrev cPL_isCandidate : ByteArray := prog_5_method_7_code
def yPL_isCandidate : MethodName := ⟨RPL, "isCandidate", "(I)Z"⟩
def wsPL_isCandidate : List Cond := .code yPL_isCandidate cPL_isCandidate 2 (some .boolean) :: gT
abbrev cPL_countCandidates : ByteArray := prog_5_method_8_code
def yPL_countCandidates : MethodName := ⟨RPL, "countCandidates", "(II)I"⟩
def wsPL_countCandidates : List Cond := .code yPL_countCandidates cPL_countCandidates 5 (some .int) :: gT
abbrev cPL_listChoices : ByteArray := prog_5_method_9_code
def yPL_listChoices : MethodName := ⟨RPL, "listChoices", "()V"⟩
def wsPL_listChoices : List Cond := .code yPL_listChoices cPL_listChoices 5 none :: gT
abbrev cPL_addChoice : ByteArray := prog_5_method_10_code
def yPL_addChoice : MethodName := ⟨RPL, "addChoice", "(III)V"⟩
def wsPL_addChoice : List Cond := .code yPL_addChoice cPL_addChoice 4 none :: gT
abbrev cPL_findLowTips : ByteArray := prog_5_method_11_code
def yPL_findLowTips : MethodName := ⟨RPL, "findLowTips", "()V"⟩
def wsPL_findLowTips : List Cond := .code yPL_findLowTips cPL_findLowTips 2 none :: gT
abbrev cPL_setsThatFree : ByteArray := prog_5_method_12_code
def yPL_setsThatFree : MethodName := ⟨RPL, "setsThatFree", "(II)I"⟩
def wsPL_setsThatFree : List Cond := .code yPL_setsThatFree cPL_setsThatFree 10 (some .int) :: gT
abbrev cPL_setsThatSave : ByteArray := prog_5_method_13_code
def yPL_setsThatSave : MethodName := ⟨RPL, "setsThatSave", "(II)I"⟩
def wsPL_setsThatSave : List Cond := .code yPL_setsThatSave cPL_setsThatSave 5 (some .int) :: gT
abbrev cPL_setsThatCover : ByteArray := prog_5_method_14_code
def yPL_setsThatCover : MethodName := ⟨RPL, "setsThatCover", "(III)I"⟩
def wsPL_setsThatCover : List Cond := .code yPL_setsThatCover cPL_setsThatCover 12 (some .int) :: gT
abbrev cPL_maySink : ByteArray := prog_5_method_15_code
def yPL_maySink : MethodName := ⟨RPL, "maySink", "(I)Z"⟩
def wsPL_maySink : List Cond := .code yPL_maySink cPL_maySink 3 (some .boolean) :: gT
abbrev cPL_lowRest : ByteArray := prog_5_method_16_code
def yPL_lowRest : MethodName := ⟨RPL, "lowRest", "(II)I"⟩
def wsPL_lowRest : List Cond := .code yPL_lowRest cPL_lowRest 3 (some .int) :: gT
abbrev cPL_setsThatMayLower : ByteArray := prog_5_method_17_code
def yPL_setsThatMayLower : MethodName := ⟨RPL, "setsThatMayLower", "(II)I"⟩
def wsPL_setsThatMayLower : List Cond := .code yPL_setsThatMayLower cPL_setsThatMayLower 10 (some .int) :: gT
abbrev cPL_isWantedListed : ByteArray := prog_5_method_18_code
def yPL_isWantedListed : MethodName := ⟨RPL, "isWantedListed", "()Z"⟩
def wsPL_isWantedListed : List Cond := .code yPL_isWantedListed cPL_isWantedListed 2 (some .boolean) :: gT
abbrev cPL_setsAbove : ByteArray := prog_5_method_19_code
def yPL_setsAbove : MethodName := ⟨RPL, "setsAbove", "(III)I"⟩
def wsPL_setsAbove : List Cond := .code yPL_setsAbove cPL_setsAbove 6 (some .int) :: gT
abbrev cPL_bestOf : ByteArray := prog_5_method_20_code
def yPL_bestOf : MethodName := ⟨RPL, "bestOf", "(I)I"⟩
def wsPL_bestOf : List Cond := .code yPL_bestOf cPL_bestOf 4 (some .int) :: gT
abbrev cPL_setsBetterThan : ByteArray := prog_5_method_21_code
def yPL_setsBetterThan : MethodName := ⟨RPL, "setsBetterThan", "(II)I"⟩
def wsPL_setsBetterThan : List Cond := .code yPL_setsBetterThan cPL_setsBetterThan 5 (some .int) :: gT
abbrev cPL_isBetter : ByteArray := prog_5_method_22_code
def yPL_isBetter : MethodName := ⟨RPL, "isBetter", "(II)Z"⟩
def wsPL_isBetter : List Cond := .code yPL_isBetter cPL_isBetter 5 (some .boolean) :: gT
abbrev cPL_lengthOf : ByteArray := prog_5_method_23_code
def yPL_lengthOf : MethodName := ⟨RPL, "lengthOf", "(I)I"⟩
def wsPL_lengthOf : List Cond := .code yPL_lengthOf cPL_lengthOf 4 (some .int) :: gT
abbrev cSH_init : ByteArray := prog_6_method_1_code
def ySH_init : MethodName := ⟨RSH, "<init>", "(II)V"⟩
def wsSH_init : List Cond := .code ySH_init cSH_init 9 none :: gT
abbrev cSH_firstSteps : ByteArray := prog_6_method_2_code
def ySH_firstSteps : MethodName := ⟨RSH, "firstSteps", "(I)[I"⟩
def wsSH_firstSteps : List Cond := .code ySH_firstSteps cSH_firstSteps 4 (some (.array .int)) :: gT
abbrev cLW_cell : ByteArray := method_2_code
def yLW_cell : MethodName := ⟨RLW, "cell", "([II)I"⟩
def wsLW_cell : List Cond := .code yLW_cell cLW_cell 2 (some .int) :: gT
abbrev cLW_height : ByteArray := method_3_code
def yLW_height : MethodName := ⟨RLW, "height", "(LRollingBalls;III[J)I"⟩
def wsLW_height : List Cond := .codeWith yLW_height cLW_height 6 (some .int) [(0, 12, 15, 13)] :: gT
abbrev cLW_rod : ByteArray := method_4_code
def yLW_rod : MethodName := ⟨RLW, "rod", "(LRollingBalls;III[J)I"⟩
def wsLW_rod : List Cond := .codeWith yLW_rod cLW_rod 6 (some .int) [(0, 12, 15, 13)] :: gT
abbrev cLW_rest : ByteArray := method_5_code
def yLW_rest : MethodName := ⟨RLW, "rest", "(LRollingBalls;III[J)I"⟩
def wsLW_rest : List Cond := .codeWith yLW_rest cLW_rest 6 (some .int) [(0, 12, 15, 13)] :: gT
abbrev cLW_touched : ByteArray := method_6_code
def yLW_touched : MethodName := ⟨RLW, "touched", "(LRollingBalls;III[J)I"⟩
def wsLW_touched : List Cond := .codeWith yLW_touched cLW_touched 6 (some .int) [(0, 12, 15, 13)] :: gT
abbrev cLW_higher : ByteArray := method_7_code
def yLW_higher : MethodName := ⟨RLW, "higher", "(LRollingBalls;IIII[J)I"⟩
def wsLW_higher : List Cond := .codeWith yLW_higher cLW_higher 7 (some .int) [(0, 14, 17, 13)] :: gT
abbrev cLW_hits : ByteArray := method_8_code
def yLW_hits : MethodName := ⟨RLW, "hits", "(LRollingBalls;II[J)I"⟩
def wsLW_hits : List Cond := .codeWith yLW_hits cLW_hits 5 (some .int) [(0, 10, 13, 13)] :: gT
abbrev cLW_safe : ByteArray := method_9_code
def yLW_safe : MethodName := ⟨RLW, "safe", "(LRollingBalls;I[J)I"⟩
def wsLW_safe : List Cond := .codeWith yLW_safe cLW_safe 4 (some .int) [(0, 9, 12, 13)] :: gT
abbrev cLW_cover : ByteArray := method_10_code
def yLW_cover : MethodName := ⟨RLW, "cover", "(LRollingBalls;II[J)I"⟩
def wsLW_cover : List Cond := .codeWith yLW_cover cLW_cover 5 (some .int) [(0, 10, 13, 13)] :: gT
abbrev cLW_may : ByteArray := method_11_code
def yLW_may : MethodName := ⟨RLW, "may", "(LRollingBalls;III[J)I"⟩
def wsLW_may : List Cond := .codeWith yLW_may cLW_may 6 (some .int) [(0, 12, 15, 13), (0, 12, 19, 42)] :: gT
abbrev cLW_want : ByteArray := method_12_code
def yLW_want : MethodName := ⟨RLW, "want", "(LRollingBalls;IIZ[J)I"⟩
def wsLW_want : List Cond := .codeWith yLW_want cLW_want 6 (some .int) [(0, 19, 22, 13)] :: gT
abbrev cJI_bitCount : ByteArray := prog_12_method_49_code
def yJI_bitCount : MethodName := ⟨RJI, "bitCount", "(I)I"⟩
def wsJI_bitCount : List Cond := .code yJI_bitCount cJI_bitCount 1 (some .int) :: gT
abbrev cJI_compare : ByteArray := prog_12_method_40_code
def yJI_compare : MethodName := ⟨RJI, "compare", "(II)I"⟩
def wsJI_compare : List Cond := .code yJI_compare cJI_compare 2 (some .int) :: gT
abbrev cJA_fill : ByteArray := prog_18_method_103_code
def yJA_fill : MethodName := ⟨RJA, "fill", "([II)V"⟩
def wsJA_fill : List Cond := .code yJA_fill cJA_fill 4 none :: gT
abbrev cLW_law : ByteArray := code
