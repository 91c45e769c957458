theorem wd0 : (.selects "RollingBalls$Ball" ⟨"RollingBalls$Ball", "placeIndex", "(II)I"⟩ ⟨"RollingBalls$Ball", "placeIndex", "(II)I"⟩ : Cond) ∈ gT := List.mem_filter.mpr ⟨List.mem_of_getElem? (i := 0) (by decide +kernel), (by decide +kernel)⟩
theorem we0 {c1 : Cond} : (.selects "RollingBalls$Ball" ⟨"RollingBalls$Ball", "placeIndex", "(II)I"⟩ ⟨"RollingBalls$Ball", "placeIndex", "(II)I"⟩ : Cond) ∈ c1 :: gT := List.mem_cons_of_mem _ wd0
theorem wd1 : (.selects "RollingBalls$Plan" ⟨"RollingBalls$Plan", "areWantedSafe", "()Z"⟩ ⟨"RollingBalls$Plan", "areWantedSafe", "()Z"⟩ : Cond) ∈ gT := List.mem_filter.mpr ⟨List.mem_of_getElem? (i := 1) (by decide +kernel), (by decide +kernel)⟩
theorem we1 {c1 : Cond} : (.selects "RollingBalls$Plan" ⟨"RollingBalls$Plan", "areWantedSafe", "()Z"⟩ ⟨"RollingBalls$Plan", "areWantedSafe", "()Z"⟩ : Cond) ∈ c1 :: gT := List.mem_cons_of_mem _ wd1
theorem wd2 : (.selects "RollingBalls$Plan" ⟨"RollingBalls$Plan", "listChoices", "()V"⟩ ⟨"RollingBalls$Plan", "listChoices", "()V"⟩ : Cond) ∈ gT := List.mem_filter.mpr ⟨List.mem_of_getElem? (i := 2) (by decide +kernel), (by decide +kernel)⟩
theorem we2 {c1 : Cond} : (.selects "RollingBalls$Plan" ⟨"RollingBalls$Plan", "listChoices", "()V"⟩ ⟨"RollingBalls$Plan", "listChoices", "()V"⟩ : Cond) ∈ c1 :: gT := List.mem_cons_of_mem _ wd2
theorem wd3 : (.selects "RollingBalls$Plan" ⟨"RollingBalls$Plan", "addChoice", "(III)V"⟩ ⟨"RollingBalls$Plan", "addChoice", "(III)V"⟩ : Cond) ∈ gT := List.mem_filter.mpr ⟨List.mem_of_getElem? (i := 3) (by decide +kernel), (by decide +kernel)⟩
theorem we3 {c1 : Cond} : (.selects "RollingBalls$Plan" ⟨"RollingBalls$Plan", "addChoice", "(III)V"⟩ ⟨"RollingBalls$Plan", "addChoice", "(III)V"⟩ : Cond) ∈ c1 :: gT := List.mem_cons_of_mem _ wd3
theorem wd4 : (.selects "RollingBalls$Plan" ⟨"RollingBalls$Plan", "countCandidates", "(II)I"⟩ ⟨"RollingBalls$Plan", "countCandidates", "(II)I"⟩ : Cond) ∈ gT := List.mem_filter.mpr ⟨List.mem_of_getElem? (i := 4) (by decide +kernel), (by decide +kernel)⟩
theorem we4 {c1 : Cond} : (.selects "RollingBalls$Plan" ⟨"RollingBalls$Plan", "countCandidates", "(II)I"⟩ ⟨"RollingBalls$Plan", "countCandidates", "(II)I"⟩ : Cond) ∈ c1 :: gT := List.mem_cons_of_mem _ wd4
theorem wd5 : (.selects "RollingBalls$Plan" ⟨"RollingBalls$Plan", "findLowTips", "()V"⟩ ⟨"RollingBalls$Plan", "findLowTips", "()V"⟩ : Cond) ∈ gT := List.mem_filter.mpr ⟨List.mem_of_getElem? (i := 5) (by decide +kernel), (by decide +kernel)⟩
theorem we5 {c1 : Cond} : (.selects "RollingBalls$Plan" ⟨"RollingBalls$Plan", "findLowTips", "()V"⟩ ⟨"RollingBalls$Plan", "findLowTips", "()V"⟩ : Cond) ∈ c1 :: gT := List.mem_cons_of_mem _ wd5
theorem wd6 : (.selects "RollingBalls$Plan" ⟨"RollingBalls$Plan", "isCandidate", "(I)Z"⟩ ⟨"RollingBalls$Plan", "isCandidate", "(I)Z"⟩ : Cond) ∈ gT := List.mem_filter.mpr ⟨List.mem_of_getElem? (i := 6) (by decide +kernel), (by decide +kernel)⟩
theorem we6 {c1 : Cond} : (.selects "RollingBalls$Plan" ⟨"RollingBalls$Plan", "isCandidate", "(I)Z"⟩ ⟨"RollingBalls$Plan", "isCandidate", "(I)Z"⟩ : Cond) ∈ c1 :: gT := List.mem_cons_of_mem _ wd6
theorem wd7 : (.selects "RollingBalls$Plan" ⟨"RollingBalls$Plan", "setsThatSave", "(II)I"⟩ ⟨"RollingBalls$Plan", "setsThatSave", "(II)I"⟩ : Cond) ∈ gT := List.mem_filter.mpr ⟨List.mem_of_getElem? (i := 7) (by decide +kernel), (by decide +kernel)⟩
theorem we7 {c1 : Cond} : (.selects "RollingBalls$Plan" ⟨"RollingBalls$Plan", "setsThatSave", "(II)I"⟩ ⟨"RollingBalls$Plan", "setsThatSave", "(II)I"⟩ : Cond) ∈ c1 :: gT := List.mem_cons_of_mem _ wd7
theorem wd8 : (.selects "RollingBalls$Plan" ⟨"RollingBalls$Plan", "setsThatCover", "(III)I"⟩ ⟨"RollingBalls$Plan", "setsThatCover", "(III)I"⟩ : Cond) ∈ gT := List.mem_filter.mpr ⟨List.mem_of_getElem? (i := 8) (by decide +kernel), (by decide +kernel)⟩
theorem we8 {c1 : Cond} : (.selects "RollingBalls$Plan" ⟨"RollingBalls$Plan", "setsThatCover", "(III)I"⟩ ⟨"RollingBalls$Plan", "setsThatCover", "(III)I"⟩ : Cond) ∈ c1 :: gT := List.mem_cons_of_mem _ wd8
theorem wd9 : (.selects "RollingBalls$Plan" ⟨"RollingBalls$Plan", "maySink", "(I)Z"⟩ ⟨"RollingBalls$Plan", "maySink", "(I)Z"⟩ : Cond) ∈ gT := List.mem_filter.mpr ⟨List.mem_of_getElem? (i := 9) (by decide +kernel), (by decide +kernel)⟩
theorem we9 {c1 : Cond} : (.selects "RollingBalls$Plan" ⟨"RollingBalls$Plan", "maySink", "(I)Z"⟩ ⟨"RollingBalls$Plan", "maySink", "(I)Z"⟩ : Cond) ∈ c1 :: gT := List.mem_cons_of_mem _ wd9
theorem wd10 : (.selects "RollingBalls$Plan" ⟨"RollingBalls$Plan", "lowRest", "(II)I"⟩ ⟨"RollingBalls$Plan", "lowRest", "(II)I"⟩ : Cond) ∈ gT := List.mem_filter.mpr ⟨List.mem_of_getElem? (i := 10) (by decide +kernel), (by decide +kernel)⟩
theorem we10 {c1 : Cond} : (.selects "RollingBalls$Plan" ⟨"RollingBalls$Plan", "lowRest", "(II)I"⟩ ⟨"RollingBalls$Plan", "lowRest", "(II)I"⟩ : Cond) ∈ c1 :: gT := List.mem_cons_of_mem _ wd10
theorem wd11 : (.selects "RollingBalls$Plan" ⟨"RollingBalls$Plan", "setsAbove", "(III)I"⟩ ⟨"RollingBalls$Plan", "setsAbove", "(III)I"⟩ : Cond) ∈ gT := List.mem_filter.mpr ⟨List.mem_of_getElem? (i := 11) (by decide +kernel), (by decide +kernel)⟩
theorem we11 {c1 : Cond} : (.selects "RollingBalls$Plan" ⟨"RollingBalls$Plan", "setsAbove", "(III)I"⟩ ⟨"RollingBalls$Plan", "setsAbove", "(III)I"⟩ : Cond) ∈ c1 :: gT := List.mem_cons_of_mem _ wd11
theorem wd12 : (.selects "RollingBalls$Plan" ⟨"RollingBalls$Plan", "setsThatFree", "(II)I"⟩ ⟨"RollingBalls$Plan", "setsThatFree", "(II)I"⟩ : Cond) ∈ gT := List.mem_filter.mpr ⟨List.mem_of_getElem? (i := 12) (by decide +kernel), (by decide +kernel)⟩
theorem we12 {c1 : Cond} : (.selects "RollingBalls$Plan" ⟨"RollingBalls$Plan", "setsThatFree", "(II)I"⟩ ⟨"RollingBalls$Plan", "setsThatFree", "(II)I"⟩ : Cond) ∈ c1 :: gT := List.mem_cons_of_mem _ wd12
theorem wd13 : (.selects "RollingBalls$Plan" ⟨"RollingBalls$Plan", "bestOf", "(I)I"⟩ ⟨"RollingBalls$Plan", "bestOf", "(I)I"⟩ : Cond) ∈ gT := List.mem_filter.mpr ⟨List.mem_of_getElem? (i := 13) (by decide +kernel), (by decide +kernel)⟩
theorem we13 {c1 : Cond} : (.selects "RollingBalls$Plan" ⟨"RollingBalls$Plan", "bestOf", "(I)I"⟩ ⟨"RollingBalls$Plan", "bestOf", "(I)I"⟩ : Cond) ∈ c1 :: gT := List.mem_cons_of_mem _ wd13
theorem wd14 : (.selects "RollingBalls$Plan" ⟨"RollingBalls$Plan", "isBetter", "(II)Z"⟩ ⟨"RollingBalls$Plan", "isBetter", "(II)Z"⟩ : Cond) ∈ gT := List.mem_filter.mpr ⟨List.mem_of_getElem? (i := 14) (by decide +kernel), (by decide +kernel)⟩
theorem we14 {c1 : Cond} : (.selects "RollingBalls$Plan" ⟨"RollingBalls$Plan", "isBetter", "(II)Z"⟩ ⟨"RollingBalls$Plan", "isBetter", "(II)Z"⟩ : Cond) ∈ c1 :: gT := List.mem_cons_of_mem _ wd14
theorem wd15 : (.selects "RollingBalls$Plan" ⟨"RollingBalls$Plan", "lengthOf", "(I)I"⟩ ⟨"RollingBalls$Plan", "lengthOf", "(I)I"⟩ : Cond) ∈ gT := List.mem_filter.mpr ⟨List.mem_of_getElem? (i := 15) (by decide +kernel), (by decide +kernel)⟩
theorem we15 {c1 : Cond} : (.selects "RollingBalls$Plan" ⟨"RollingBalls$Plan", "lengthOf", "(I)I"⟩ ⟨"RollingBalls$Plan", "lengthOf", "(I)I"⟩ : Cond) ∈ c1 :: gT := List.mem_cons_of_mem _ wd15
theorem wd16 : (.selects "RollingBalls$Plan" ⟨"RollingBalls$Plan", "setsBetterThan", "(II)I"⟩ ⟨"RollingBalls$Plan", "setsBetterThan", "(II)I"⟩ : Cond) ∈ gT := List.mem_filter.mpr ⟨List.mem_of_getElem? (i := 16) (by decide +kernel), (by decide +kernel)⟩
theorem we16 {c1 : Cond} : (.selects "RollingBalls$Plan" ⟨"RollingBalls$Plan", "setsBetterThan", "(II)I"⟩ ⟨"RollingBalls$Plan", "setsBetterThan", "(II)I"⟩ : Cond) ∈ c1 :: gT := List.mem_cons_of_mem _ wd16
theorem wd17 : (.selects "RollingBalls$Plan" ⟨"RollingBalls$Plan", "setsThatMayLower", "(II)I"⟩ ⟨"RollingBalls$Plan", "setsThatMayLower", "(II)I"⟩ : Cond) ∈ gT := List.mem_filter.mpr ⟨List.mem_of_getElem? (i := 17) (by decide +kernel), (by decide +kernel)⟩
theorem we17 {c1 : Cond} : (.selects "RollingBalls$Plan" ⟨"RollingBalls$Plan", "setsThatMayLower", "(II)I"⟩ ⟨"RollingBalls$Plan", "setsThatMayLower", "(II)I"⟩ : Cond) ∈ c1 :: gT := List.mem_cons_of_mem _ wd17
theorem wd18 : (.selects "RollingBalls$Plan" ⟨"RollingBalls$Plan", "isWantedListed", "()Z"⟩ ⟨"RollingBalls$Plan", "isWantedListed", "()Z"⟩ : Cond) ∈ gT := List.mem_filter.mpr ⟨List.mem_of_getElem? (i := 18) (by decide +kernel), (by decide +kernel)⟩
theorem we18 {c1 : Cond} : (.selects "RollingBalls$Plan" ⟨"RollingBalls$Plan", "isWantedListed", "()Z"⟩ ⟨"RollingBalls$Plan", "isWantedListed", "()Z"⟩ : Cond) ∈ c1 :: gT := List.mem_cons_of_mem _ wd18
theorem wd19 : (.selects "RollingBalls" ⟨"RollingBalls", "putRod", "(II)V"⟩ ⟨"RollingBalls", "putRod", "(II)V"⟩ : Cond) ∈ gT := List.mem_filter.mpr ⟨List.mem_of_getElem? (i := 19) (by decide +kernel), (by decide +kernel)⟩
theorem we19 {c1 : Cond} : (.selects "RollingBalls" ⟨"RollingBalls", "putRod", "(II)V"⟩ ⟨"RollingBalls", "putRod", "(II)V"⟩ : Cond) ∈ c1 :: gT := List.mem_cons_of_mem _ wd19
theorem wd20 : (.selects "RollingBalls$Ball" ⟨"RollingBalls$Ball", "raiseTip", "(II)V"⟩ ⟨"RollingBalls$Ball", "raiseTip", "(II)V"⟩ : Cond) ∈ gT := List.mem_filter.mpr ⟨List.mem_of_getElem? (i := 20) (by decide +kernel), (by decide +kernel)⟩
theorem we20 {c1 : Cond} : (.selects "RollingBalls$Ball" ⟨"RollingBalls$Ball", "raiseTip", "(II)V"⟩ ⟨"RollingBalls$Ball", "raiseTip", "(II)V"⟩ : Cond) ∈ c1 :: gT := List.mem_cons_of_mem _ wd20
theorem wd21 : (.selects "RollingBalls$Ball" ⟨"RollingBalls$Ball", "leave", "(III)V"⟩ ⟨"RollingBalls$Ball", "leave", "(III)V"⟩ : Cond) ∈ gT := List.mem_filter.mpr ⟨List.mem_of_getElem? (i := 21) (by decide +kernel), (by decide +kernel)⟩
theorem we21 {c1 : Cond} : (.selects "RollingBalls$Ball" ⟨"RollingBalls$Ball", "leave", "(III)V"⟩ ⟨"RollingBalls$Ball", "leave", "(III)V"⟩ : Cond) ∈ c1 :: gT := List.mem_cons_of_mem _ wd21
theorem wd22 : (.selects "RollingBalls$Ball" ⟨"RollingBalls$Ball", "countListed", "(I)V"⟩ ⟨"RollingBalls$Ball", "countListed", "(I)V"⟩ : Cond) ∈ gT := List.mem_filter.mpr ⟨List.mem_of_getElem? (i := 22) (by decide +kernel), (by decide +kernel)⟩
theorem we22 {c1 : Cond} : (.selects "RollingBalls$Ball" ⟨"RollingBalls$Ball", "countListed", "(I)V"⟩ ⟨"RollingBalls$Ball", "countListed", "(I)V"⟩ : Cond) ∈ c1 :: gT := List.mem_cons_of_mem _ wd22
theorem wd23 : (.selects "RollingBalls$Ball" ⟨"RollingBalls$Ball", "lowerTip", "(II)V"⟩ ⟨"RollingBalls$Ball", "lowerTip", "(II)V"⟩ : Cond) ∈ gT := List.mem_filter.mpr ⟨List.mem_of_getElem? (i := 23) (by decide +kernel), (by decide +kernel)⟩
theorem we23 {c1 : Cond} : (.selects "RollingBalls$Ball" ⟨"RollingBalls$Ball", "lowerTip", "(II)V"⟩ ⟨"RollingBalls$Ball", "lowerTip", "(II)V"⟩ : Cond) ∈ c1 :: gT := List.mem_cons_of_mem _ wd23
theorem wd24 : (.selects "RollingBalls$Ball" ⟨"RollingBalls$Ball", "settle", "(III)V"⟩ ⟨"RollingBalls$Ball", "settle", "(III)V"⟩ : Cond) ∈ gT := List.mem_filter.mpr ⟨List.mem_of_getElem? (i := 24) (by decide +kernel), (by decide +kernel)⟩
theorem we24 {c1 : Cond} : (.selects "RollingBalls$Ball" ⟨"RollingBalls$Ball", "settle", "(III)V"⟩ ⟨"RollingBalls$Ball", "settle", "(III)V"⟩ : Cond) ∈ c1 :: gT := List.mem_cons_of_mem _ wd24
theorem wd25 : (.selects "RollingBalls" ⟨"RollingBalls", "pointAt", "(II)I"⟩ ⟨"RollingBalls", "pointAt", "(II)I"⟩ : Cond) ∈ gT := List.mem_filter.mpr ⟨List.mem_of_getElem? (i := 25) (by decide +kernel), (by decide +kernel)⟩
theorem we25 {c1 : Cond} : (.selects "RollingBalls" ⟨"RollingBalls", "pointAt", "(II)I"⟩ ⟨"RollingBalls", "pointAt", "(II)I"⟩ : Cond) ∈ c1 :: gT := List.mem_cons_of_mem _ wd25
theorem wd26 : (.selects "java/lang/Throwable" ⟨"java/lang/Throwable", "fillInStackTrace", "(I)Ljava/lang/Throwable;"⟩ ⟨"java/lang/Throwable", "fillInStackTrace", "(I)Ljava/lang/Throwable;"⟩ : Cond) ∈ gT := List.mem_filter.mpr ⟨List.mem_of_getElem? (i := 26) (by decide +kernel), (by decide +kernel)⟩
theorem we26 {c1 : Cond} : (.selects "java/lang/Throwable" ⟨"java/lang/Throwable", "fillInStackTrace", "(I)Ljava/lang/Throwable;"⟩ ⟨"java/lang/Throwable", "fillInStackTrace", "(I)Ljava/lang/Throwable;"⟩ : Cond) ∈ c1 :: gT := List.mem_cons_of_mem _ wd26
theorem wd27 : (.selects "RollingBalls" ⟨"RollingBalls", "needPlace", "(II)V"⟩ ⟨"RollingBalls", "needPlace", "(II)V"⟩ : Cond) ∈ gT := List.mem_filter.mpr ⟨List.mem_of_getElem? (i := 27) (by decide +kernel), (by decide +kernel)⟩
theorem we27 {c1 : Cond} : (.selects "RollingBalls" ⟨"RollingBalls", "needPlace", "(II)V"⟩ ⟨"RollingBalls", "needPlace", "(II)V"⟩ : Cond) ∈ c1 :: gT := List.mem_cons_of_mem _ wd27
theorem wd28 : (.selects "RollingBalls" ⟨"RollingBalls", "numberOf", "(I)I"⟩ ⟨"RollingBalls", "numberOf", "(I)I"⟩ : Cond) ∈ gT := List.mem_filter.mpr ⟨List.mem_of_getElem? (i := 28) (by decide +kernel), (by decide +kernel)⟩
theorem we28 {c1 : Cond} : (.selects "RollingBalls" ⟨"RollingBalls", "numberOf", "(I)I"⟩ ⟨"RollingBalls", "numberOf", "(I)I"⟩ : Cond) ∈ c1 :: gT := List.mem_cons_of_mem _ wd28
theorem wd29 : (.selects "RollingBallsModel" ⟨"RollingBallsModel", "isPoint", "(II)Z"⟩ ⟨"RollingBallsModel", "isPoint", "(II)Z"⟩ : Cond) ∈ gT := List.mem_filter.mpr ⟨List.mem_of_getElem? (i := 29) (by decide +kernel), (by decide +kernel)⟩
theorem we29 {c1 : Cond} : (.selects "RollingBallsModel" ⟨"RollingBallsModel", "isPoint", "(II)Z"⟩ ⟨"RollingBallsModel", "isPoint", "(II)Z"⟩ : Cond) ∈ c1 :: gT := List.mem_cons_of_mem _ wd29
theorem wd30 : (.selects "RollingBallsModel" ⟨"RollingBallsModel", "isPlace", "(II)Z"⟩ ⟨"RollingBallsModel", "isPlace", "(II)Z"⟩ : Cond) ∈ gT := List.mem_filter.mpr ⟨List.mem_of_getElem? (i := 30) (by decide +kernel), (by decide +kernel)⟩
theorem we30 {c1 : Cond} : (.selects "RollingBallsModel" ⟨"RollingBallsModel", "isPlace", "(II)Z"⟩ ⟨"RollingBallsModel", "isPlace", "(II)Z"⟩ : Cond) ∈ c1 :: gT := List.mem_cons_of_mem _ wd30
theorem wd31 : (.selects "RollingBallsModel" ⟨"RollingBallsModel", "stand", "()V"⟩ ⟨"RollingBallsModel", "stand", "()V"⟩ : Cond) ∈ gT := List.mem_filter.mpr ⟨List.mem_of_getElem? (i := 31) (by decide +kernel), (by decide +kernel)⟩
theorem we31 {c1 : Cond} : (.selects "RollingBallsModel" ⟨"RollingBallsModel", "stand", "()V"⟩ ⟨"RollingBallsModel", "stand", "()V"⟩ : Cond) ∈ c1 :: gT := List.mem_cons_of_mem _ wd31
theorem wd32 : (.selects "RollingBallsModel" ⟨"RollingBallsModel", "restAt", "(II)V"⟩ ⟨"RollingBallsModel", "restAt", "(II)V"⟩ : Cond) ∈ gT := List.mem_filter.mpr ⟨List.mem_of_getElem? (i := 32) (by decide +kernel), (by decide +kernel)⟩
theorem we32 {c1 : Cond} : (.selects "RollingBallsModel" ⟨"RollingBallsModel", "restAt", "(II)V"⟩ ⟨"RollingBallsModel", "restAt", "(II)V"⟩ : Cond) ∈ c1 :: gT := List.mem_cons_of_mem _ wd32
theorem wd33 : (.selects "RollingBallsModel" ⟨"RollingBallsModel", "placeAt", "(II)I"⟩ ⟨"RollingBallsModel", "placeAt", "(II)I"⟩ : Cond) ∈ gT := List.mem_filter.mpr ⟨List.mem_of_getElem? (i := 33) (by decide +kernel), (by decide +kernel)⟩
theorem we33 {c1 : Cond} : (.selects "RollingBallsModel" ⟨"RollingBallsModel", "placeAt", "(II)I"⟩ ⟨"RollingBallsModel", "placeAt", "(II)I"⟩ : Cond) ∈ c1 :: gT := List.mem_cons_of_mem _ wd33
theorem wd34 : (.selects "RollingBallsModel" ⟨"RollingBallsModel", "across", "()I"⟩ ⟨"RollingBallsModel", "across", "()I"⟩ : Cond) ∈ gT := List.mem_filter.mpr ⟨List.mem_of_getElem? (i := 34) (by decide +kernel), (by decide +kernel)⟩
theorem we34 {c1 : Cond} : (.selects "RollingBallsModel" ⟨"RollingBallsModel", "across", "()I"⟩ ⟨"RollingBallsModel", "across", "()I"⟩ : Cond) ∈ c1 :: gT := List.mem_cons_of_mem _ wd34
theorem wd35 : (.selects "RollingBallsModel" ⟨"RollingBallsModel", "isNear", "(III)Z"⟩ ⟨"RollingBallsModel", "isNear", "(III)Z"⟩ : Cond) ∈ gT := List.mem_filter.mpr ⟨List.mem_of_getElem? (i := 35) (by decide +kernel), (by decide +kernel)⟩
theorem we35 {c1 : Cond} : (.selects "RollingBallsModel" ⟨"RollingBallsModel", "isNear", "(III)Z"⟩ ⟨"RollingBallsModel", "isNear", "(III)Z"⟩ : Cond) ∈ c1 :: gT := List.mem_cons_of_mem _ wd35
theorem wd36 : (.selects "RollingBallsModel" ⟨"RollingBallsModel", "distance", "(III)I"⟩ ⟨"RollingBallsModel", "distance", "(III)I"⟩ : Cond) ∈ gT := List.mem_filter.mpr ⟨List.mem_of_getElem? (i := 36) (by decide +kernel), (by decide +kernel)⟩
theorem we36 {c1 : Cond} : (.selects "RollingBallsModel" ⟨"RollingBallsModel", "distance", "(III)I"⟩ ⟨"RollingBallsModel", "distance", "(III)I"⟩ : Cond) ∈ c1 :: gT := List.mem_cons_of_mem _ wd36
theorem wd37 : (.selects "RollingBallsModel" ⟨"RollingBallsModel", "isTouched", "(III)Z"⟩ ⟨"RollingBallsModel", "isTouched", "(III)Z"⟩ : Cond) ∈ gT := List.mem_filter.mpr ⟨List.mem_of_getElem? (i := 37) (by decide +kernel), (by decide +kernel)⟩
theorem we37 {c1 : Cond} : (.selects "RollingBallsModel" ⟨"RollingBallsModel", "isTouched", "(III)Z"⟩ ⟨"RollingBallsModel", "isTouched", "(III)Z"⟩ : Cond) ∈ c1 :: gT := List.mem_cons_of_mem _ wd37
theorem wd38 : (.selects "RollingBallsModel" ⟨"RollingBallsModel", "roll", "()V"⟩ ⟨"RollingBallsModel", "roll", "()V"⟩ : Cond) ∈ gT := List.mem_filter.mpr ⟨List.mem_of_getElem? (i := 38) (by decide +kernel), (by decide +kernel)⟩
theorem we38 {c1 : Cond} : (.selects "RollingBallsModel" ⟨"RollingBallsModel", "roll", "()V"⟩ ⟨"RollingBallsModel", "roll", "()V"⟩ : Cond) ∈ c1 :: gT := List.mem_cons_of_mem _ wd38
theorem wd39 : (.selects "RollingBallsModel" ⟨"RollingBallsModel", "places", "()I"⟩ ⟨"RollingBallsModel", "places", "()I"⟩ : Cond) ∈ gT := List.mem_filter.mpr ⟨List.mem_of_getElem? (i := 39) (by decide +kernel), (by decide +kernel)⟩
theorem we39 {c1 : Cond} : (.selects "RollingBallsModel" ⟨"RollingBallsModel", "places", "()I"⟩ ⟨"RollingBallsModel", "places", "()I"⟩ : Cond) ∈ c1 :: gT := List.mem_cons_of_mem _ wd39
theorem wd40 : (.selects "RollingBallsModel" ⟨"RollingBallsModel", "isSafe", "(I)Z"⟩ ⟨"RollingBallsModel", "isSafe", "(I)Z"⟩ : Cond) ∈ gT := List.mem_filter.mpr ⟨List.mem_of_getElem? (i := 40) (by decide +kernel), (by decide +kernel)⟩
theorem we40 {c1 : Cond} : (.selects "RollingBallsModel" ⟨"RollingBallsModel", "isSafe", "(I)Z"⟩ ⟨"RollingBallsModel", "isSafe", "(I)Z"⟩ : Cond) ∈ c1 :: gT := List.mem_cons_of_mem _ wd40
theorem wd41 : (.selects "RollingBallsModel" ⟨"RollingBallsModel", "manyOf", "(I)I"⟩ ⟨"RollingBallsModel", "manyOf", "(I)I"⟩ : Cond) ∈ gT := List.mem_filter.mpr ⟨List.mem_of_getElem? (i := 41) (by decide +kernel), (by decide +kernel)⟩
theorem we41 {c1 : Cond} : (.selects "RollingBallsModel" ⟨"RollingBallsModel", "manyOf", "(I)I"⟩ ⟨"RollingBallsModel", "manyOf", "(I)I"⟩ : Cond) ∈ c1 :: gT := List.mem_cons_of_mem _ wd41
theorem wd42 : (.selects "RollingBallsModel" ⟨"RollingBallsModel", "lengthOf", "(I)I"⟩ ⟨"RollingBallsModel", "lengthOf", "(I)I"⟩ : Cond) ∈ gT := List.mem_filter.mpr ⟨List.mem_of_getElem? (i := 42) (by decide +kernel), (by decide +kernel)⟩
theorem we42 {c1 : Cond} : (.selects "RollingBallsModel" ⟨"RollingBallsModel", "lengthOf", "(I)I"⟩ ⟨"RollingBallsModel", "lengthOf", "(I)I"⟩ : Cond) ∈ c1 :: gT := List.mem_cons_of_mem _ wd42
theorem wd43 : (.selects "RollingBallsModel" ⟨"RollingBallsModel", "does", "(I)Z"⟩ ⟨"RollingBallsModel", "does", "(I)Z"⟩ : Cond) ∈ gT := List.mem_filter.mpr ⟨List.mem_of_getElem? (i := 43) (by decide +kernel), (by decide +kernel)⟩
theorem we43 {c1 : Cond} : (.selects "RollingBallsModel" ⟨"RollingBallsModel", "does", "(I)Z"⟩ ⟨"RollingBallsModel", "does", "(I)Z"⟩ : Cond) ∈ c1 :: gT := List.mem_cons_of_mem _ wd43
theorem wd44 : (.initialized "RollingBallsLaw" : Cond) ∈ gT := List.mem_filter.mpr ⟨List.mem_of_getElem? (i := 44) (by decide +kernel), (by decide +kernel)⟩
theorem we44 {c1 : Cond} : (.initialized "RollingBallsLaw" : Cond) ∈ c1 :: gT := List.mem_cons_of_mem _ wd44
theorem wd45 : (.initialized "RollingBalls" : Cond) ∈ gT := List.mem_filter.mpr ⟨List.mem_of_getElem? (i := 45) (by decide +kernel), (by decide +kernel)⟩
theorem we45 {c1 : Cond} : (.initialized "RollingBalls" : Cond) ∈ c1 :: gT := List.mem_cons_of_mem _ wd45
theorem wd46 : (.initialized "java/lang/Math" : Cond) ∈ gT := List.mem_filter.mpr ⟨List.mem_of_getElem? (i := 46) (by decide +kernel), (by decide +kernel)⟩
theorem we46 {c1 : Cond} : (.initialized "java/lang/Math" : Cond) ∈ c1 :: gT := List.mem_cons_of_mem _ wd46
theorem wd47 : (.initialized "RollingBalls$House" : Cond) ∈ gT := List.mem_filter.mpr ⟨List.mem_of_getElem? (i := 47) (by decide +kernel), (by decide +kernel)⟩
theorem we47 {c1 : Cond} : (.initialized "RollingBalls$House" : Cond) ∈ c1 :: gT := List.mem_cons_of_mem _ wd47
theorem wd48 : (.initialized "RollingBalls$Ball" : Cond) ∈ gT := List.mem_filter.mpr ⟨List.mem_of_getElem? (i := 48) (by decide +kernel), (by decide +kernel)⟩
theorem we48 {c1 : Cond} : (.initialized "RollingBalls$Ball" : Cond) ∈ c1 :: gT := List.mem_cons_of_mem _ wd48
theorem wd49 : (.initialized "RollingBalls$Shadow" : Cond) ∈ gT := List.mem_filter.mpr ⟨List.mem_of_getElem? (i := 49) (by decide +kernel), (by decide +kernel)⟩
theorem we49 {c1 : Cond} : (.initialized "RollingBalls$Shadow" : Cond) ∈ c1 :: gT := List.mem_cons_of_mem _ wd49
theorem wd50 : (.initialized "RollingBalls$Level" : Cond) ∈ gT := List.mem_filter.mpr ⟨List.mem_of_getElem? (i := 50) (by decide +kernel), (by decide +kernel)⟩
theorem we50 {c1 : Cond} : (.initialized "RollingBalls$Level" : Cond) ∈ c1 :: gT := List.mem_cons_of_mem _ wd50
theorem wd51 : (.initialized "java/util/Arrays" : Cond) ∈ gT := List.mem_filter.mpr ⟨List.mem_of_getElem? (i := 51) (by decide +kernel), (by decide +kernel)⟩
theorem we51 {c1 : Cond} : (.initialized "java/util/Arrays" : Cond) ∈ c1 :: gT := List.mem_cons_of_mem _ wd51
theorem wd52 : (.initialized "RollingBalls$Plan" : Cond) ∈ gT := List.mem_filter.mpr ⟨List.mem_of_getElem? (i := 52) (by decide +kernel), (by decide +kernel)⟩
theorem we52 {c1 : Cond} : (.initialized "RollingBalls$Plan" : Cond) ∈ c1 :: gT := List.mem_cons_of_mem _ wd52
theorem wd53 : (.initialized "RollingBallsModel" : Cond) ∈ gT := List.mem_filter.mpr ⟨List.mem_of_getElem? (i := 53) (by decide +kernel), (by decide +kernel)⟩
theorem we53 {c1 : Cond} : (.initialized "RollingBallsModel" : Cond) ∈ c1 :: gT := List.mem_cons_of_mem _ wd53
theorem wd54 : (.initialized "java/lang/Throwable" : Cond) ∈ gT := List.mem_filter.mpr ⟨List.mem_of_getElem? (i := 54) (by decide +kernel), (by decide +kernel)⟩
theorem we54 {c1 : Cond} : (.initialized "java/lang/Throwable" : Cond) ∈ c1 :: gT := List.mem_cons_of_mem _ wd54
theorem wd55 : (.initialized "java/lang/Exception" : Cond) ∈ gT := List.mem_filter.mpr ⟨List.mem_of_getElem? (i := 55) (by decide +kernel), (by decide +kernel)⟩
theorem we55 {c1 : Cond} : (.initialized "java/lang/Exception" : Cond) ∈ c1 :: gT := List.mem_cons_of_mem _ wd55
theorem wd56 : (.initialized "java/lang/RuntimeException" : Cond) ∈ gT := List.mem_filter.mpr ⟨List.mem_of_getElem? (i := 56) (by decide +kernel), (by decide +kernel)⟩
theorem we56 {c1 : Cond} : (.initialized "java/lang/RuntimeException" : Cond) ∈ c1 :: gT := List.mem_cons_of_mem _ wd56
theorem wd57 : (.initialized "java/lang/IllegalArgumentException" : Cond) ∈ gT := List.mem_filter.mpr ⟨List.mem_of_getElem? (i := 57) (by decide +kernel), (by decide +kernel)⟩
theorem we57 {c1 : Cond} : (.initialized "java/lang/IllegalArgumentException" : Cond) ∈ c1 :: gT := List.mem_cons_of_mem _ wd57
theorem wd58 : (.initialized "java/lang/Integer" : Cond) ∈ gT := List.mem_filter.mpr ⟨List.mem_of_getElem? (i := 58) (by decide +kernel), (by decide +kernel)⟩
theorem we58 {c1 : Cond} : (.initialized "java/lang/Integer" : Cond) ∈ c1 :: gT := List.mem_cons_of_mem _ wd58
theorem wd59 : (.initialized "java/lang/IllegalStateException" : Cond) ∈ gT := List.mem_filter.mpr ⟨List.mem_of_getElem? (i := 59) (by decide +kernel), (by decide +kernel)⟩
theorem we59 {c1 : Cond} : (.initialized "java/lang/IllegalStateException" : Cond) ∈ c1 :: gT := List.mem_cons_of_mem _ wd59
theorem wd60 : (.initialized "java/lang/System" : Cond) ∈ gT := List.mem_filter.mpr ⟨List.mem_of_getElem? (i := 60) (by decide +kernel), (by decide +kernel)⟩
theorem we60 {c1 : Cond} : (.initialized "java/lang/System" : Cond) ∈ c1 :: gT := List.mem_cons_of_mem _ wd60
theorem wd61 : (.classLink "RollingBallsLaw" 8 "RollingBalls" : Cond) ∈ gT := List.mem_filter.mpr ⟨List.mem_of_getElem? (i := 61) (by decide +kernel), (by decide +kernel)⟩
theorem we61 {c1 : Cond} : (.classLink "RollingBallsLaw" 8 "RollingBalls" : Cond) ∈ c1 :: gT := List.mem_cons_of_mem _ wd61
theorem wd62 : (.instantiable "RollingBalls" 7 : Cond) ∈ gT := List.mem_filter.mpr ⟨List.mem_of_getElem? (i := 62) (by decide +kernel), (by decide +kernel)⟩
theorem we62 {c1 : Cond} : (.instantiable "RollingBalls" 7 : Cond) ∈ c1 :: gT := List.mem_cons_of_mem _ wd62
theorem wd63 : (.methodLink "RollingBallsLaw" 54 ⟨"RollingBalls", "<init>", "(III)V"⟩ : Cond) ∈ gT := List.mem_filter.mpr ⟨List.mem_of_getElem? (i := 63) (by decide +kernel), (by decide +kernel)⟩
theorem we63 {c1 : Cond} : (.methodLink "RollingBallsLaw" 54 ⟨"RollingBalls", "<init>", "(III)V"⟩ : Cond) ∈ c1 :: gT := List.mem_cons_of_mem _ wd63
theorem wd64 : (.instanceMethod ⟨"RollingBalls", "<init>", "(III)V"⟩ : Cond) ∈ gT := List.mem_filter.mpr ⟨List.mem_of_getElem? (i := 64) (by decide +kernel), (by decide +kernel)⟩
theorem we64 {c1 : Cond} : (.instanceMethod ⟨"RollingBalls", "<init>", "(III)V"⟩ : Cond) ∈ c1 :: gT := List.mem_cons_of_mem _ wd64
theorem wd65 : (.code ⟨"RollingBalls", "<init>", "(III)V"⟩ prog_1_method_1_code 4 none : Cond) ∈ gT := List.mem_filter.mpr ⟨List.mem_of_getElem? (i := 65) (by decide +kernel), (by decide +kernel)⟩
theorem we65 {c1 : Cond} : (.code ⟨"RollingBalls", "<init>", "(III)V"⟩ prog_1_method_1_code 4 none : Cond) ∈ c1 :: gT := List.mem_cons_of_mem _ wd65
theorem wd66 : (.methodLink "RollingBalls" 1 ⟨"java/lang/Object", "<init>", "()V"⟩ : Cond) ∈ gT := List.mem_filter.mpr ⟨List.mem_of_getElem? (i := 66) (by decide +kernel), (by decide +kernel)⟩
theorem we66 {c1 : Cond} : (.methodLink "RollingBalls" 1 ⟨"java/lang/Object", "<init>", "()V"⟩ : Cond) ∈ c1 :: gT := List.mem_cons_of_mem _ wd66
theorem wd67 : (.instanceMethod ⟨"java/lang/Object", "<init>", "()V"⟩ : Cond) ∈ gT := List.mem_filter.mpr ⟨List.mem_of_getElem? (i := 67) (by decide +kernel), (by decide +kernel)⟩
theorem we67 {c1 : Cond} : (.instanceMethod ⟨"java/lang/Object", "<init>", "()V"⟩ : Cond) ∈ c1 :: gT := List.mem_cons_of_mem _ wd67
theorem wd68 : (.code ⟨"java/lang/Object", "<init>", "()V"⟩ object_method_1_code 1 none : Cond) ∈ gT := List.mem_filter.mpr ⟨List.mem_of_getElem? (i := 68) (by decide +kernel), (by decide +kernel)⟩
theorem we68 {c1 : Cond} : (.code ⟨"java/lang/Object", "<init>", "()V"⟩ object_method_1_code 1 none : Cond) ∈ c1 :: gT := List.mem_cons_of_mem _ wd68
theorem wd69 : (.methodLink "RollingBalls" 9 ⟨"RollingBalls", "between", "(III)I"⟩ : Cond) ∈ gT := List.mem_filter.mpr ⟨List.mem_of_getElem? (i := 69) (by decide +kernel), (by decide +kernel)⟩
theorem we69 {c1 : Cond} : (.methodLink "RollingBalls" 9 ⟨"RollingBalls", "between", "(III)I"⟩ : Cond) ∈ c1 :: gT := List.mem_cons_of_mem _ wd69
theorem wd70 : (.static ⟨"RollingBalls", "between", "(III)I"⟩ : Cond) ∈ gT := List.mem_filter.mpr ⟨List.mem_of_getElem? (i := 70) (by decide +kernel), (by decide +kernel)⟩
theorem we70 {c1 : Cond} : (.static ⟨"RollingBalls", "between", "(III)I"⟩ : Cond) ∈ c1 :: gT := List.mem_cons_of_mem _ wd70
theorem wd71 : (.code ⟨"RollingBalls", "between", "(III)I"⟩ prog_1_method_22_code 3 (some .int) : Cond) ∈ gT := List.mem_filter.mpr ⟨List.mem_of_getElem? (i := 71) (by decide +kernel), (by decide +kernel)⟩
theorem we71 {c1 : Cond} : (.code ⟨"RollingBalls", "between", "(III)I"⟩ prog_1_method_22_code 3 (some .int) : Cond) ∈ c1 :: gT := List.mem_cons_of_mem _ wd71
theorem wd72 : (.methodLink "RollingBalls" 185 ⟨"java/lang/Math", "min", "(II)I"⟩ : Cond) ∈ gT := List.mem_filter.mpr ⟨List.mem_of_getElem? (i := 72) (by decide +kernel), (by decide +kernel)⟩
theorem we72 {c1 : Cond} : (.methodLink "RollingBalls" 185 ⟨"java/lang/Math", "min", "(II)I"⟩ : Cond) ∈ c1 :: gT := List.mem_cons_of_mem _ wd72
theorem wd73 : (.static ⟨"java/lang/Math", "min", "(II)I"⟩ : Cond) ∈ gT := List.mem_filter.mpr ⟨List.mem_of_getElem? (i := 73) (by decide +kernel), (by decide +kernel)⟩
theorem we73 {c1 : Cond} : (.static ⟨"java/lang/Math", "min", "(II)I"⟩ : Cond) ∈ c1 :: gT := List.mem_cons_of_mem _ wd73
theorem wd74 : (.code ⟨"java/lang/Math", "min", "(II)I"⟩ prog_13_method_69_code 2 (some .int) : Cond) ∈ gT := List.mem_filter.mpr ⟨List.mem_of_getElem? (i := 74) (by decide +kernel), (by decide +kernel)⟩
theorem we74 {c1 : Cond} : (.code ⟨"java/lang/Math", "min", "(II)I"⟩ prog_13_method_69_code 2 (some .int) : Cond) ∈ c1 :: gT := List.mem_cons_of_mem _ wd74
theorem wd75 : (.methodLink "RollingBalls" 190 ⟨"java/lang/Math", "max", "(II)I"⟩ : Cond) ∈ gT := List.mem_filter.mpr ⟨List.mem_of_getElem? (i := 75) (by decide +kernel), (by decide +kernel)⟩
theorem we75 {c1 : Cond} : (.methodLink "RollingBalls" 190 ⟨"java/lang/Math", "max", "(II)I"⟩ : Cond) ∈ c1 :: gT := List.mem_cons_of_mem _ wd75
theorem wd76 : (.static ⟨"java/lang/Math", "max", "(II)I"⟩ : Cond) ∈ gT := List.mem_filter.mpr ⟨List.mem_of_getElem? (i := 76) (by decide +kernel), (by decide +kernel)⟩
theorem we76 {c1 : Cond} : (.static ⟨"java/lang/Math", "max", "(II)I"⟩ : Cond) ∈ c1 :: gT := List.mem_cons_of_mem _ wd76
theorem wd77 : (.code ⟨"java/lang/Math", "max", "(II)I"⟩ prog_13_method_65_code 2 (some .int) : Cond) ∈ gT := List.mem_filter.mpr ⟨List.mem_of_getElem? (i := 77) (by decide +kernel), (by decide +kernel)⟩
theorem we77 {c1 : Cond} : (.code ⟨"java/lang/Math", "max", "(II)I"⟩ prog_13_method_65_code 2 (some .int) : Cond) ∈ c1 :: gT := List.mem_cons_of_mem _ wd77
theorem wd78 : (.classLink "RollingBalls" 23 "RollingBalls$House" : Cond) ∈ gT := List.mem_filter.mpr ⟨List.mem_of_getElem? (i := 78) (by decide +kernel), (by decide +kernel)⟩
theorem we78 {c1 : Cond} : (.classLink "RollingBalls" 23 "RollingBalls$House" : Cond) ∈ c1 :: gT := List.mem_cons_of_mem _ wd78
theorem wd79 : (.instantiable "RollingBalls$House" 9 : Cond) ∈ gT := List.mem_filter.mpr ⟨List.mem_of_getElem? (i := 79) (by decide +kernel), (by decide +kernel)⟩
theorem we79 {c1 : Cond} : (.instantiable "RollingBalls$House" 9 : Cond) ∈ c1 :: gT := List.mem_cons_of_mem _ wd79
theorem wd80 : (.methodLink "RollingBalls" 25 ⟨"RollingBalls$House", "<init>", "(II)V"⟩ : Cond) ∈ gT := List.mem_filter.mpr ⟨List.mem_of_getElem? (i := 80) (by decide +kernel), (by decide +kernel)⟩
theorem we80 {c1 : Cond} : (.methodLink "RollingBalls" 25 ⟨"RollingBalls$House", "<init>", "(II)V"⟩ : Cond) ∈ c1 :: gT := List.mem_cons_of_mem _ wd80
theorem wd81 : (.instanceMethod ⟨"RollingBalls$House", "<init>", "(II)V"⟩ : Cond) ∈ gT := List.mem_filter.mpr ⟨List.mem_of_getElem? (i := 81) (by decide +kernel), (by decide +kernel)⟩
theorem we81 {c1 : Cond} : (.instanceMethod ⟨"RollingBalls$House", "<init>", "(II)V"⟩ : Cond) ∈ c1 :: gT := List.mem_cons_of_mem _ wd81
theorem wd82 : (.code ⟨"RollingBalls$House", "<init>", "(II)V"⟩ prog_3_method_1_code 5 none : Cond) ∈ gT := List.mem_filter.mpr ⟨List.mem_of_getElem? (i := 82) (by decide +kernel), (by decide +kernel)⟩
theorem we82 {c1 : Cond} : (.code ⟨"RollingBalls$House", "<init>", "(II)V"⟩ prog_3_method_1_code 5 none : Cond) ∈ c1 :: gT := List.mem_cons_of_mem _ wd82
theorem wd83 : (.methodLink "RollingBalls$House" 1 ⟨"java/lang/Object", "<init>", "()V"⟩ : Cond) ∈ gT := List.mem_filter.mpr ⟨List.mem_of_getElem? (i := 83) (by decide +kernel), (by decide +kernel)⟩
theorem we83 {c1 : Cond} : (.methodLink "RollingBalls$House" 1 ⟨"java/lang/Object", "<init>", "()V"⟩ : Cond) ∈ c1 :: gT := List.mem_cons_of_mem _ wd83
theorem wd84 : (.fieldLink "RollingBalls$House" 7 "RollingBalls$House" "w" "I" : Cond) ∈ gT := List.mem_filter.mpr ⟨List.mem_of_getElem? (i := 84) (by decide +kernel), (by decide +kernel)⟩
theorem we84 {c1 : Cond} : (.fieldLink "RollingBalls$House" 7 "RollingBalls$House" "w" "I" : Cond) ∈ c1 :: gT := List.mem_cons_of_mem _ wd84
theorem wd85 : (.fieldLink "RollingBalls$Ball" 28 "RollingBalls$House" "w" "I" : Cond) ∈ gT := List.mem_filter.mpr ⟨List.mem_of_getElem? (i := 85) (by decide +kernel), (by decide +kernel)⟩
theorem we85 {c1 : Cond} : (.fieldLink "RollingBalls$Ball" 28 "RollingBalls$House" "w" "I" : Cond) ∈ c1 :: gT := List.mem_cons_of_mem _ wd85
theorem wd86 : (.fieldLink "RollingBalls$House" 13 "RollingBalls$House" "d" "I" : Cond) ∈ gT := List.mem_filter.mpr ⟨List.mem_of_getElem? (i := 86) (by decide +kernel), (by decide +kernel)⟩
theorem we86 {c1 : Cond} : (.fieldLink "RollingBalls$House" 13 "RollingBalls$House" "d" "I" : Cond) ∈ c1 :: gT := List.mem_cons_of_mem _ wd86
theorem wd87 : (.fieldLink "RollingBalls$Ball" 58 "RollingBalls$House" "d" "I" : Cond) ∈ gT := List.mem_filter.mpr ⟨List.mem_of_getElem? (i := 87) (by decide +kernel), (by decide +kernel)⟩
theorem we87 {c1 : Cond} : (.fieldLink "RollingBalls$Ball" 58 "RollingBalls$House" "d" "I" : Cond) ∈ c1 :: gT := List.mem_cons_of_mem _ wd87
theorem wd88 : (.fieldLink "RollingBalls$House" 16 "RollingBalls$House" "points" "I" : Cond) ∈ gT := List.mem_filter.mpr ⟨List.mem_of_getElem? (i := 88) (by decide +kernel), (by decide +kernel)⟩
theorem we88 {c1 : Cond} : (.fieldLink "RollingBalls$House" 16 "RollingBalls$House" "points" "I" : Cond) ∈ c1 :: gT := List.mem_cons_of_mem _ wd88
theorem wd89 : (.fieldLink "RollingBalls$Ball" 45 "RollingBalls$House" "points" "I" : Cond) ∈ gT := List.mem_filter.mpr ⟨List.mem_of_getElem? (i := 89) (by decide +kernel), (by decide +kernel)⟩
theorem we89 {c1 : Cond} : (.fieldLink "RollingBalls$Ball" 45 "RollingBalls$House" "points" "I" : Cond) ∈ c1 :: gT := List.mem_cons_of_mem _ wd89
theorem wd90 : (.fieldLink "RollingBalls$Plan" 45 "RollingBalls$House" "points" "I" : Cond) ∈ gT := List.mem_filter.mpr ⟨List.mem_of_getElem? (i := 90) (by decide +kernel), (by decide +kernel)⟩
theorem we90 {c1 : Cond} : (.fieldLink "RollingBalls$Plan" 45 "RollingBalls$House" "points" "I" : Cond) ∈ c1 :: gT := List.mem_cons_of_mem _ wd90
theorem wd91 : (.fieldLink "RollingBalls" 50 "RollingBalls$House" "points" "I" : Cond) ∈ gT := List.mem_filter.mpr ⟨List.mem_of_getElem? (i := 91) (by decide +kernel), (by decide +kernel)⟩
theorem we91 {c1 : Cond} : (.fieldLink "RollingBalls" 50 "RollingBalls$House" "points" "I" : Cond) ∈ c1 :: gT := List.mem_cons_of_mem _ wd91
theorem wd92 : (.fieldLink "RollingBalls$House" 19 "RollingBalls$House" "columns" "[I" : Cond) ∈ gT := List.mem_filter.mpr ⟨List.mem_of_getElem? (i := 92) (by decide +kernel), (by decide +kernel)⟩
theorem we92 {c1 : Cond} : (.fieldLink "RollingBalls$House" 19 "RollingBalls$House" "columns" "[I" : Cond) ∈ c1 :: gT := List.mem_cons_of_mem _ wd92
theorem wd93 : (.fieldLink "RollingBalls$Ball" 76 "RollingBalls$House" "columns" "[I" : Cond) ∈ gT := List.mem_filter.mpr ⟨List.mem_of_getElem? (i := 93) (by decide +kernel), (by decide +kernel)⟩
theorem we93 {c1 : Cond} : (.fieldLink "RollingBalls$Ball" 76 "RollingBalls$House" "columns" "[I" : Cond) ∈ c1 :: gT := List.mem_cons_of_mem _ wd93
theorem wd94 : (.fieldLink "RollingBalls$Plan" 144 "RollingBalls$House" "columns" "[I" : Cond) ∈ gT := List.mem_filter.mpr ⟨List.mem_of_getElem? (i := 94) (by decide +kernel), (by decide +kernel)⟩
theorem we94 {c1 : Cond} : (.fieldLink "RollingBalls$Plan" 144 "RollingBalls$House" "columns" "[I" : Cond) ∈ c1 :: gT := List.mem_cons_of_mem _ wd94
theorem wd95 : (.fieldLink "RollingBalls" 178 "RollingBalls$House" "columns" "[I" : Cond) ∈ gT := List.mem_filter.mpr ⟨List.mem_of_getElem? (i := 95) (by decide +kernel), (by decide +kernel)⟩
theorem we95 {c1 : Cond} : (.fieldLink "RollingBalls" 178 "RollingBalls$House" "columns" "[I" : Cond) ∈ c1 :: gT := List.mem_cons_of_mem _ wd95
theorem wd96 : (.fieldLink "RollingBalls$House" 23 "RollingBalls$House" "rows" "[I" : Cond) ∈ gT := List.mem_filter.mpr ⟨List.mem_of_getElem? (i := 96) (by decide +kernel), (by decide +kernel)⟩
theorem we96 {c1 : Cond} : (.fieldLink "RollingBalls$House" 23 "RollingBalls$House" "rows" "[I" : Cond) ∈ c1 :: gT := List.mem_cons_of_mem _ wd96
theorem wd97 : (.fieldLink "RollingBalls$Ball" 79 "RollingBalls$House" "rows" "[I" : Cond) ∈ gT := List.mem_filter.mpr ⟨List.mem_of_getElem? (i := 97) (by decide +kernel), (by decide +kernel)⟩
theorem we97 {c1 : Cond} : (.fieldLink "RollingBalls$Ball" 79 "RollingBalls$House" "rows" "[I" : Cond) ∈ c1 :: gT := List.mem_cons_of_mem _ wd97
theorem wd98 : (.fieldLink "RollingBalls$Plan" 150 "RollingBalls$House" "rows" "[I" : Cond) ∈ gT := List.mem_filter.mpr ⟨List.mem_of_getElem? (i := 98) (by decide +kernel), (by decide +kernel)⟩
theorem we98 {c1 : Cond} : (.fieldLink "RollingBalls$Plan" 150 "RollingBalls$House" "rows" "[I" : Cond) ∈ c1 :: gT := List.mem_cons_of_mem _ wd98
theorem wd99 : (.fieldLink "RollingBalls" 175 "RollingBalls$House" "rows" "[I" : Cond) ∈ gT := List.mem_filter.mpr ⟨List.mem_of_getElem? (i := 99) (by decide +kernel), (by decide +kernel)⟩
theorem we99 {c1 : Cond} : (.fieldLink "RollingBalls" 175 "RollingBalls$House" "rows" "[I" : Cond) ∈ c1 :: gT := List.mem_cons_of_mem _ wd99
theorem wd100 : (.fieldLink "RollingBalls$House" 26 "RollingBalls$House" "heights" "[I" : Cond) ∈ gT := List.mem_filter.mpr ⟨List.mem_of_getElem? (i := 100) (by decide +kernel), (by decide +kernel)⟩
theorem we100 {c1 : Cond} : (.fieldLink "RollingBalls$House" 26 "RollingBalls$House" "heights" "[I" : Cond) ∈ c1 :: gT := List.mem_cons_of_mem _ wd100
theorem wd101 : (.fieldLink "RollingBalls" 65 "RollingBalls$House" "heights" "[I" : Cond) ∈ gT := List.mem_filter.mpr ⟨List.mem_of_getElem? (i := 101) (by decide +kernel), (by decide +kernel)⟩
theorem we101 {c1 : Cond} : (.fieldLink "RollingBalls" 65 "RollingBalls$House" "heights" "[I" : Cond) ∈ c1 :: gT := List.mem_cons_of_mem _ wd101
theorem wd102 : (.fieldLink "RollingBalls$House" 29 "RollingBalls$House" "rods" "[I" : Cond) ∈ gT := List.mem_filter.mpr ⟨List.mem_of_getElem? (i := 102) (by decide +kernel), (by decide +kernel)⟩
theorem we102 {c1 : Cond} : (.fieldLink "RollingBalls$House" 29 "RollingBalls$House" "rods" "[I" : Cond) ∈ c1 :: gT := List.mem_cons_of_mem _ wd102
theorem wd103 : (.fieldLink "RollingBalls" 69 "RollingBalls$House" "rods" "[I" : Cond) ∈ gT := List.mem_filter.mpr ⟨List.mem_of_getElem? (i := 103) (by decide +kernel), (by decide +kernel)⟩
theorem we103 {c1 : Cond} : (.fieldLink "RollingBalls" 69 "RollingBalls$House" "rods" "[I" : Cond) ∈ c1 :: gT := List.mem_cons_of_mem _ wd103
theorem wd104 : (.fieldLink "RollingBalls$House" 32 "RollingBalls$House" "tips" "[I" : Cond) ∈ gT := List.mem_filter.mpr ⟨List.mem_of_getElem? (i := 104) (by decide +kernel), (by decide +kernel)⟩
theorem we104 {c1 : Cond} : (.fieldLink "RollingBalls$House" 32 "RollingBalls$House" "tips" "[I" : Cond) ∈ c1 :: gT := List.mem_cons_of_mem _ wd104
theorem wd105 : (.fieldLink "RollingBalls$Ball" 86 "RollingBalls$House" "tips" "[I" : Cond) ∈ gT := List.mem_filter.mpr ⟨List.mem_of_getElem? (i := 105) (by decide +kernel), (by decide +kernel)⟩
theorem we105 {c1 : Cond} : (.fieldLink "RollingBalls$Ball" 86 "RollingBalls$House" "tips" "[I" : Cond) ∈ c1 :: gT := List.mem_cons_of_mem _ wd105
theorem wd106 : (.fieldLink "RollingBalls$Plan" 85 "RollingBalls$House" "tips" "[I" : Cond) ∈ gT := List.mem_filter.mpr ⟨List.mem_of_getElem? (i := 106) (by decide +kernel), (by decide +kernel)⟩
theorem we106 {c1 : Cond} : (.fieldLink "RollingBalls$Plan" 85 "RollingBalls$House" "tips" "[I" : Cond) ∈ c1 :: gT := List.mem_cons_of_mem _ wd106
theorem wd107 : (.fieldLink "RollingBalls$House" 35 "RollingBalls$House" "rowTops" "[I" : Cond) ∈ gT := List.mem_filter.mpr ⟨List.mem_of_getElem? (i := 107) (by decide +kernel), (by decide +kernel)⟩
theorem we107 {c1 : Cond} : (.fieldLink "RollingBalls$House" 35 "RollingBalls$House" "rowTops" "[I" : Cond) ∈ c1 :: gT := List.mem_cons_of_mem _ wd107
theorem wd108 : (.fieldLink "RollingBalls$Ball" 143 "RollingBalls$House" "rowTops" "[I" : Cond) ∈ gT := List.mem_filter.mpr ⟨List.mem_of_getElem? (i := 108) (by decide +kernel), (by decide +kernel)⟩
theorem we108 {c1 : Cond} : (.fieldLink "RollingBalls$Ball" 143 "RollingBalls$House" "rowTops" "[I" : Cond) ∈ c1 :: gT := List.mem_cons_of_mem _ wd108
theorem wd109 : (.laysFinal "RollingBalls$House" "RollingBalls$House" "w" "I" : Cond) ∈ gT := List.mem_filter.mpr ⟨List.mem_of_getElem? (i := 109) (by decide +kernel), (by decide +kernel)⟩
theorem we109 {c1 : Cond} : (.laysFinal "RollingBalls$House" "RollingBalls$House" "w" "I" : Cond) ∈ c1 :: gT := List.mem_cons_of_mem _ wd109
theorem wd111 : (.laysFinal "RollingBalls$House" "RollingBalls$House" "d" "I" : Cond) ∈ gT := List.mem_filter.mpr ⟨List.mem_of_getElem? (i := 111) (by decide +kernel), (by decide +kernel)⟩
theorem we111 {c1 : Cond} : (.laysFinal "RollingBalls$House" "RollingBalls$House" "d" "I" : Cond) ∈ c1 :: gT := List.mem_cons_of_mem _ wd111
theorem wd113 : (.laysFinal "RollingBalls$House" "RollingBalls$House" "points" "I" : Cond) ∈ gT := List.mem_filter.mpr ⟨List.mem_of_getElem? (i := 113) (by decide +kernel), (by decide +kernel)⟩
theorem we113 {c1 : Cond} : (.laysFinal "RollingBalls$House" "RollingBalls$House" "points" "I" : Cond) ∈ c1 :: gT := List.mem_cons_of_mem _ wd113
theorem wd115 : (.laysFinal "RollingBalls$House" "RollingBalls$House" "columns" "[I" : Cond) ∈ gT := List.mem_filter.mpr ⟨List.mem_of_getElem? (i := 115) (by decide +kernel), (by decide +kernel)⟩
theorem we115 {c1 : Cond} : (.laysFinal "RollingBalls$House" "RollingBalls$House" "columns" "[I" : Cond) ∈ c1 :: gT := List.mem_cons_of_mem _ wd115
theorem wd117 : (.laysFinal "RollingBalls$House" "RollingBalls$House" "rows" "[I" : Cond) ∈ gT := List.mem_filter.mpr ⟨List.mem_of_getElem? (i := 117) (by decide +kernel), (by decide +kernel)⟩
theorem we117 {c1 : Cond} : (.laysFinal "RollingBalls$House" "RollingBalls$House" "rows" "[I" : Cond) ∈ c1 :: gT := List.mem_cons_of_mem _ wd117
theorem wd119 : (.laysFinal "RollingBalls$House" "RollingBalls$House" "heights" "[I" : Cond) ∈ gT := List.mem_filter.mpr ⟨List.mem_of_getElem? (i := 119) (by decide +kernel), (by decide +kernel)⟩
theorem we119 {c1 : Cond} : (.laysFinal "RollingBalls$House" "RollingBalls$House" "heights" "[I" : Cond) ∈ c1 :: gT := List.mem_cons_of_mem _ wd119
theorem wd121 : (.laysFinal "RollingBalls$House" "RollingBalls$House" "rods" "[I" : Cond) ∈ gT := List.mem_filter.mpr ⟨List.mem_of_getElem? (i := 121) (by decide +kernel), (by decide +kernel)⟩
theorem we121 {c1 : Cond} : (.laysFinal "RollingBalls$House" "RollingBalls$House" "rods" "[I" : Cond) ∈ c1 :: gT := List.mem_cons_of_mem _ wd121
theorem wd123 : (.laysFinal "RollingBalls$House" "RollingBalls$House" "tips" "[I" : Cond) ∈ gT := List.mem_filter.mpr ⟨List.mem_of_getElem? (i := 123) (by decide +kernel), (by decide +kernel)⟩
theorem we123 {c1 : Cond} : (.laysFinal "RollingBalls$House" "RollingBalls$House" "tips" "[I" : Cond) ∈ c1 :: gT := List.mem_cons_of_mem _ wd123
theorem wd125 : (.laysFinal "RollingBalls$House" "RollingBalls$House" "rowTops" "[I" : Cond) ∈ gT := List.mem_filter.mpr ⟨List.mem_of_getElem? (i := 125) (by decide +kernel), (by decide +kernel)⟩
theorem we125 {c1 : Cond} : (.laysFinal "RollingBalls$House" "RollingBalls$House" "rowTops" "[I" : Cond) ∈ c1 :: gT := List.mem_cons_of_mem _ wd125
theorem wd128 : (.arrayClass .int : Cond) ∈ gT := List.mem_filter.mpr ⟨List.mem_of_getElem? (i := 128) (by decide +kernel), (by decide +kernel)⟩
theorem we128 {c1 : Cond} : (.arrayClass .int : Cond) ∈ c1 :: gT := List.mem_cons_of_mem _ wd128
theorem wd129 : (.classLink "RollingBalls" 32 "RollingBalls$Ball" : Cond) ∈ gT := List.mem_filter.mpr ⟨List.mem_of_getElem? (i := 129) (by decide +kernel), (by decide +kernel)⟩
theorem we129 {c1 : Cond} : (.classLink "RollingBalls" 32 "RollingBalls$Ball" : Cond) ∈ c1 :: gT := List.mem_cons_of_mem _ wd129
theorem wd130 : (.instantiable "RollingBalls$Ball" 12 : Cond) ∈ gT := List.mem_filter.mpr ⟨List.mem_of_getElem? (i := 130) (by decide +kernel), (by decide +kernel)⟩
theorem we130 {c1 : Cond} : (.instantiable "RollingBalls$Ball" 12 : Cond) ∈ c1 :: gT := List.mem_cons_of_mem _ wd130
theorem wd131 : (.methodLink "RollingBalls" 34 ⟨"RollingBalls$Ball", "<init>", "(LRollingBalls$House;I)V"⟩ : Cond) ∈ gT := List.mem_filter.mpr ⟨List.mem_of_getElem? (i := 131) (by decide +kernel), (by decide +kernel)⟩
theorem we131 {c1 : Cond} : (.methodLink "RollingBalls" 34 ⟨"RollingBalls$Ball", "<init>", "(LRollingBalls$House;I)V"⟩ : Cond) ∈ c1 :: gT := List.mem_cons_of_mem _ wd131
theorem wd132 : (.instanceMethod ⟨"RollingBalls$Ball", "<init>", "(LRollingBalls$House;I)V"⟩ : Cond) ∈ gT := List.mem_filter.mpr ⟨List.mem_of_getElem? (i := 132) (by decide +kernel), (by decide +kernel)⟩
theorem we132 {c1 : Cond} : (.instanceMethod ⟨"RollingBalls$Ball", "<init>", "(LRollingBalls$House;I)V"⟩ : Cond) ∈ c1 :: gT := List.mem_cons_of_mem _ wd132
theorem wd133 : (.code ⟨"RollingBalls$Ball", "<init>", "(LRollingBalls$House;I)V"⟩ prog_2_method_1_code 5 none : Cond) ∈ gT := List.mem_filter.mpr ⟨List.mem_of_getElem? (i := 133) (by decide +kernel), (by decide +kernel)⟩
theorem we133 {c1 : Cond} : (.code ⟨"RollingBalls$Ball", "<init>", "(LRollingBalls$House;I)V"⟩ prog_2_method_1_code 5 none : Cond) ∈ c1 :: gT := List.mem_cons_of_mem _ wd133
theorem wd134 : (.methodLink "RollingBalls$Ball" 3 ⟨"java/lang/Object", "<init>", "()V"⟩ : Cond) ∈ gT := List.mem_filter.mpr ⟨List.mem_of_getElem? (i := 134) (by decide +kernel), (by decide +kernel)⟩
theorem we134 {c1 : Cond} : (.methodLink "RollingBalls$Ball" 3 ⟨"java/lang/Object", "<init>", "()V"⟩ : Cond) ∈ c1 :: gT := List.mem_cons_of_mem _ wd134
theorem wd135 : (.constant "RollingBalls$Ball" 24 1048576 : Cond) ∈ gT := List.mem_filter.mpr ⟨List.mem_of_getElem? (i := 135) (by decide +kernel), (by decide +kernel)⟩
theorem we135 {c1 : Cond} : (.constant "RollingBalls$Ball" 24 1048576 : Cond) ∈ c1 :: gT := List.mem_cons_of_mem _ wd135
theorem wd136 : (.classLink "RollingBalls$Ball" 36 "RollingBalls$Shadow" : Cond) ∈ gT := List.mem_filter.mpr ⟨List.mem_of_getElem? (i := 136) (by decide +kernel), (by decide +kernel)⟩
theorem we136 {c1 : Cond} : (.classLink "RollingBalls$Ball" 36 "RollingBalls$Shadow" : Cond) ∈ c1 :: gT := List.mem_cons_of_mem _ wd136
theorem wd137 : (.instantiable "RollingBalls$Shadow" 7 : Cond) ∈ gT := List.mem_filter.mpr ⟨List.mem_of_getElem? (i := 137) (by decide +kernel), (by decide +kernel)⟩
theorem we137 {c1 : Cond} : (.instantiable "RollingBalls$Shadow" 7 : Cond) ∈ c1 :: gT := List.mem_cons_of_mem _ wd137
theorem wd138 : (.methodLink "RollingBalls$Ball" 38 ⟨"RollingBalls$Shadow", "<init>", "(II)V"⟩ : Cond) ∈ gT := List.mem_filter.mpr ⟨List.mem_of_getElem? (i := 138) (by decide +kernel), (by decide +kernel)⟩
theorem we138 {c1 : Cond} : (.methodLink "RollingBalls$Ball" 38 ⟨"RollingBalls$Shadow", "<init>", "(II)V"⟩ : Cond) ∈ c1 :: gT := List.mem_cons_of_mem _ wd138
theorem wd139 : (.instanceMethod ⟨"RollingBalls$Shadow", "<init>", "(II)V"⟩ : Cond) ∈ gT := List.mem_filter.mpr ⟨List.mem_of_getElem? (i := 139) (by decide +kernel), (by decide +kernel)⟩
theorem we139 {c1 : Cond} : (.instanceMethod ⟨"RollingBalls$Shadow", "<init>", "(II)V"⟩ : Cond) ∈ c1 :: gT := List.mem_cons_of_mem _ wd139
theorem wd140 : (.code ⟨"RollingBalls$Shadow", "<init>", "(II)V"⟩ prog_6_method_1_code 9 none : Cond) ∈ gT := List.mem_filter.mpr ⟨List.mem_of_getElem? (i := 140) (by decide +kernel), (by decide +kernel)⟩
theorem we140 {c1 : Cond} : (.code ⟨"RollingBalls$Shadow", "<init>", "(II)V"⟩ prog_6_method_1_code 9 none : Cond) ∈ c1 :: gT := List.mem_cons_of_mem _ wd140
theorem wd141 : (.methodLink "RollingBalls$Shadow" 1 ⟨"java/lang/Object", "<init>", "()V"⟩ : Cond) ∈ gT := List.mem_filter.mpr ⟨List.mem_of_getElem? (i := 141) (by decide +kernel), (by decide +kernel)⟩
theorem we141 {c1 : Cond} : (.methodLink "RollingBalls$Shadow" 1 ⟨"java/lang/Object", "<init>", "()V"⟩ : Cond) ∈ c1 :: gT := List.mem_cons_of_mem _ wd141
theorem wd142 : (.methodLink "RollingBalls$Shadow" 7 ⟨"RollingBalls$Shadow", "firstSteps", "(I)[I"⟩ : Cond) ∈ gT := List.mem_filter.mpr ⟨List.mem_of_getElem? (i := 142) (by decide +kernel), (by decide +kernel)⟩
theorem we142 {c1 : Cond} : (.methodLink "RollingBalls$Shadow" 7 ⟨"RollingBalls$Shadow", "firstSteps", "(I)[I"⟩ : Cond) ∈ c1 :: gT := List.mem_cons_of_mem _ wd142
theorem wd143 : (.static ⟨"RollingBalls$Shadow", "firstSteps", "(I)[I"⟩ : Cond) ∈ gT := List.mem_filter.mpr ⟨List.mem_of_getElem? (i := 143) (by decide +kernel), (by decide +kernel)⟩
theorem we143 {c1 : Cond} : (.static ⟨"RollingBalls$Shadow", "firstSteps", "(I)[I"⟩ : Cond) ∈ c1 :: gT := List.mem_cons_of_mem _ wd143
theorem wd144 : (.code ⟨"RollingBalls$Shadow", "firstSteps", "(I)[I"⟩ prog_6_method_2_code 4 (some (.array .int)) : Cond) ∈ gT := List.mem_filter.mpr ⟨List.mem_of_getElem? (i := 144) (by decide +kernel), (by decide +kernel)⟩
theorem we144 {c1 : Cond} : (.code ⟨"RollingBalls$Shadow", "firstSteps", "(I)[I"⟩ prog_6_method_2_code 4 (some (.array .int)) : Cond) ∈ c1 :: gT := List.mem_cons_of_mem _ wd144
theorem wd145 : (.fieldLink "RollingBalls$Shadow" 36 "RollingBalls$Level" "ROOTS" "[I" : Cond) ∈ gT := List.mem_filter.mpr ⟨List.mem_of_getElem? (i := 145) (by decide +kernel), (by decide +kernel)⟩
theorem we145 {c1 : Cond} : (.fieldLink "RollingBalls$Shadow" 36 "RollingBalls$Level" "ROOTS" "[I" : Cond) ∈ c1 :: gT := List.mem_cons_of_mem _ wd145
theorem wd147 : (.constant "RollingBalls$Shadow" 41 (-1073741824) : Cond) ∈ gT := List.mem_filter.mpr ⟨List.mem_of_getElem? (i := 147) (by decide +kernel), (by decide +kernel)⟩
theorem we147 {c1 : Cond} : (.constant "RollingBalls$Shadow" 41 (-1073741824) : Cond) ∈ c1 :: gT := List.mem_cons_of_mem _ wd147
theorem wd148 : (.fieldLink "RollingBalls$Shadow" 13 "RollingBalls$Shadow" "size" "I" : Cond) ∈ gT := List.mem_filter.mpr ⟨List.mem_of_getElem? (i := 148) (by decide +kernel), (by decide +kernel)⟩
theorem we148 {c1 : Cond} : (.fieldLink "RollingBalls$Shadow" 13 "RollingBalls$Shadow" "size" "I" : Cond) ∈ c1 :: gT := List.mem_cons_of_mem _ wd148
theorem wd149 : (.fieldLink "RollingBalls$Ball" 96 "RollingBalls$Shadow" "size" "I" : Cond) ∈ gT := List.mem_filter.mpr ⟨List.mem_of_getElem? (i := 149) (by decide +kernel), (by decide +kernel)⟩
theorem we149 {c1 : Cond} : (.fieldLink "RollingBalls$Ball" 96 "RollingBalls$Shadow" "size" "I" : Cond) ∈ c1 :: gT := List.mem_cons_of_mem _ wd149
theorem wd150 : (.fieldLink "RollingBalls$Plan" 130 "RollingBalls$Shadow" "size" "I" : Cond) ∈ gT := List.mem_filter.mpr ⟨List.mem_of_getElem? (i := 150) (by decide +kernel), (by decide +kernel)⟩
theorem we150 {c1 : Cond} : (.fieldLink "RollingBalls$Plan" 130 "RollingBalls$Shadow" "size" "I" : Cond) ∈ c1 :: gT := List.mem_cons_of_mem _ wd150
theorem wd151 : (.fieldLink "RollingBalls$Shadow" 17 "RollingBalls$Shadow" "across" "[I" : Cond) ∈ gT := List.mem_filter.mpr ⟨List.mem_of_getElem? (i := 151) (by decide +kernel), (by decide +kernel)⟩
theorem we151 {c1 : Cond} : (.fieldLink "RollingBalls$Shadow" 17 "RollingBalls$Shadow" "across" "[I" : Cond) ∈ c1 :: gT := List.mem_cons_of_mem _ wd151
theorem wd152 : (.fieldLink "RollingBalls$Ball" 116 "RollingBalls$Shadow" "across" "[I" : Cond) ∈ gT := List.mem_filter.mpr ⟨List.mem_of_getElem? (i := 152) (by decide +kernel), (by decide +kernel)⟩
theorem we152 {c1 : Cond} : (.fieldLink "RollingBalls$Ball" 116 "RollingBalls$Shadow" "across" "[I" : Cond) ∈ c1 :: gT := List.mem_cons_of_mem _ wd152
theorem wd153 : (.fieldLink "RollingBalls$Plan" 147 "RollingBalls$Shadow" "across" "[I" : Cond) ∈ gT := List.mem_filter.mpr ⟨List.mem_of_getElem? (i := 153) (by decide +kernel), (by decide +kernel)⟩
theorem we153 {c1 : Cond} : (.fieldLink "RollingBalls$Plan" 147 "RollingBalls$Shadow" "across" "[I" : Cond) ∈ c1 :: gT := List.mem_cons_of_mem _ wd153
theorem wd154 : (.fieldLink "RollingBalls$Shadow" 21 "RollingBalls$Shadow" "along" "[I" : Cond) ∈ gT := List.mem_filter.mpr ⟨List.mem_of_getElem? (i := 154) (by decide +kernel), (by decide +kernel)⟩
theorem we154 {c1 : Cond} : (.fieldLink "RollingBalls$Shadow" 21 "RollingBalls$Shadow" "along" "[I" : Cond) ∈ c1 :: gT := List.mem_cons_of_mem _ wd154
theorem wd155 : (.fieldLink "RollingBalls$Ball" 119 "RollingBalls$Shadow" "along" "[I" : Cond) ∈ gT := List.mem_filter.mpr ⟨List.mem_of_getElem? (i := 155) (by decide +kernel), (by decide +kernel)⟩
theorem we155 {c1 : Cond} : (.fieldLink "RollingBalls$Ball" 119 "RollingBalls$Shadow" "along" "[I" : Cond) ∈ c1 :: gT := List.mem_cons_of_mem _ wd155
theorem wd156 : (.fieldLink "RollingBalls$Plan" 153 "RollingBalls$Shadow" "along" "[I" : Cond) ∈ gT := List.mem_filter.mpr ⟨List.mem_of_getElem? (i := 156) (by decide +kernel), (by decide +kernel)⟩
theorem we156 {c1 : Cond} : (.fieldLink "RollingBalls$Plan" 153 "RollingBalls$Shadow" "along" "[I" : Cond) ∈ c1 :: gT := List.mem_cons_of_mem _ wd156
theorem wd157 : (.fieldLink "RollingBalls$Shadow" 24 "RollingBalls$Shadow" "strides" "[I" : Cond) ∈ gT := List.mem_filter.mpr ⟨List.mem_of_getElem? (i := 157) (by decide +kernel), (by decide +kernel)⟩
theorem we157 {c1 : Cond} : (.fieldLink "RollingBalls$Shadow" 24 "RollingBalls$Shadow" "strides" "[I" : Cond) ∈ c1 :: gT := List.mem_cons_of_mem _ wd157
theorem wd158 : (.fieldLink "RollingBalls$Ball" 99 "RollingBalls$Shadow" "strides" "[I" : Cond) ∈ gT := List.mem_filter.mpr ⟨List.mem_of_getElem? (i := 158) (by decide +kernel), (by decide +kernel)⟩
theorem we158 {c1 : Cond} : (.fieldLink "RollingBalls$Ball" 99 "RollingBalls$Shadow" "strides" "[I" : Cond) ∈ c1 :: gT := List.mem_cons_of_mem _ wd158
theorem wd159 : (.fieldLink "RollingBalls$Plan" 141 "RollingBalls$Shadow" "strides" "[I" : Cond) ∈ gT := List.mem_filter.mpr ⟨List.mem_of_getElem? (i := 159) (by decide +kernel), (by decide +kernel)⟩
theorem we159 {c1 : Cond} : (.fieldLink "RollingBalls$Plan" 141 "RollingBalls$Shadow" "strides" "[I" : Cond) ∈ c1 :: gT := List.mem_cons_of_mem _ wd159
theorem wd160 : (.fieldLink "RollingBalls$Shadow" 27 "RollingBalls$Shadow" "lifts" "[I" : Cond) ∈ gT := List.mem_filter.mpr ⟨List.mem_of_getElem? (i := 160) (by decide +kernel), (by decide +kernel)⟩
theorem we160 {c1 : Cond} : (.fieldLink "RollingBalls$Shadow" 27 "RollingBalls$Shadow" "lifts" "[I" : Cond) ∈ c1 :: gT := List.mem_cons_of_mem _ wd160
theorem wd161 : (.fieldLink "RollingBalls$Ball" 102 "RollingBalls$Shadow" "lifts" "[I" : Cond) ∈ gT := List.mem_filter.mpr ⟨List.mem_of_getElem? (i := 161) (by decide +kernel), (by decide +kernel)⟩
theorem we161 {c1 : Cond} : (.fieldLink "RollingBalls$Ball" 102 "RollingBalls$Shadow" "lifts" "[I" : Cond) ∈ c1 :: gT := List.mem_cons_of_mem _ wd161
theorem wd162 : (.fieldLink "RollingBalls$Plan" 135 "RollingBalls$Shadow" "lifts" "[I" : Cond) ∈ gT := List.mem_filter.mpr ⟨List.mem_of_getElem? (i := 162) (by decide +kernel), (by decide +kernel)⟩
theorem we162 {c1 : Cond} : (.fieldLink "RollingBalls$Plan" 135 "RollingBalls$Shadow" "lifts" "[I" : Cond) ∈ c1 :: gT := List.mem_cons_of_mem _ wd162
theorem wd163 : (.fieldLink "RollingBalls$Shadow" 33 "RollingBalls$Shadow" "square" "[I" : Cond) ∈ gT := List.mem_filter.mpr ⟨List.mem_of_getElem? (i := 163) (by decide +kernel), (by decide +kernel)⟩
theorem we163 {c1 : Cond} : (.fieldLink "RollingBalls$Shadow" 33 "RollingBalls$Shadow" "square" "[I" : Cond) ∈ c1 :: gT := List.mem_cons_of_mem _ wd163
theorem wd164 : (.fieldLink "RollingBalls$Ball" 139 "RollingBalls$Shadow" "square" "[I" : Cond) ∈ gT := List.mem_filter.mpr ⟨List.mem_of_getElem? (i := 164) (by decide +kernel), (by decide +kernel)⟩
theorem we164 {c1 : Cond} : (.fieldLink "RollingBalls$Ball" 139 "RollingBalls$Shadow" "square" "[I" : Cond) ∈ c1 :: gT := List.mem_cons_of_mem _ wd164
theorem wd165 : (.fieldLink "RollingBalls$Shadow" 30 "RollingBalls$Shadow" "side" "I" : Cond) ∈ gT := List.mem_filter.mpr ⟨List.mem_of_getElem? (i := 165) (by decide +kernel), (by decide +kernel)⟩
theorem we165 {c1 : Cond} : (.fieldLink "RollingBalls$Shadow" 30 "RollingBalls$Shadow" "side" "I" : Cond) ∈ c1 :: gT := List.mem_cons_of_mem _ wd165
theorem wd166 : (.fieldLink "RollingBalls$Ball" 136 "RollingBalls$Shadow" "side" "I" : Cond) ∈ gT := List.mem_filter.mpr ⟨List.mem_of_getElem? (i := 166) (by decide +kernel), (by decide +kernel)⟩
theorem we166 {c1 : Cond} : (.fieldLink "RollingBalls$Ball" 136 "RollingBalls$Shadow" "side" "I" : Cond) ∈ c1 :: gT := List.mem_cons_of_mem _ wd166
theorem wd167 : (.laysFinal "RollingBalls$Shadow" "RollingBalls$Shadow" "size" "I" : Cond) ∈ gT := List.mem_filter.mpr ⟨List.mem_of_getElem? (i := 167) (by decide +kernel), (by decide +kernel)⟩
theorem we167 {c1 : Cond} : (.laysFinal "RollingBalls$Shadow" "RollingBalls$Shadow" "size" "I" : Cond) ∈ c1 :: gT := List.mem_cons_of_mem _ wd167
theorem wd169 : (.laysFinal "RollingBalls$Shadow" "RollingBalls$Shadow" "across" "[I" : Cond) ∈ gT := List.mem_filter.mpr ⟨List.mem_of_getElem? (i := 169) (by decide +kernel), (by decide +kernel)⟩
theorem we169 {c1 : Cond} : (.laysFinal "RollingBalls$Shadow" "RollingBalls$Shadow" "across" "[I" : Cond) ∈ c1 :: gT := List.mem_cons_of_mem _ wd169
theorem wd171 : (.laysFinal "RollingBalls$Shadow" "RollingBalls$Shadow" "along" "[I" : Cond) ∈ gT := List.mem_filter.mpr ⟨List.mem_of_getElem? (i := 171) (by decide +kernel), (by decide +kernel)⟩
theorem we171 {c1 : Cond} : (.laysFinal "RollingBalls$Shadow" "RollingBalls$Shadow" "along" "[I" : Cond) ∈ c1 :: gT := List.mem_cons_of_mem _ wd171
theorem wd173 : (.laysFinal "RollingBalls$Shadow" "RollingBalls$Shadow" "strides" "[I" : Cond) ∈ gT := List.mem_filter.mpr ⟨List.mem_of_getElem? (i := 173) (by decide +kernel), (by decide +kernel)⟩
theorem we173 {c1 : Cond} : (.laysFinal "RollingBalls$Shadow" "RollingBalls$Shadow" "strides" "[I" : Cond) ∈ c1 :: gT := List.mem_cons_of_mem _ wd173
theorem wd175 : (.laysFinal "RollingBalls$Shadow" "RollingBalls$Shadow" "lifts" "[I" : Cond) ∈ gT := List.mem_filter.mpr ⟨List.mem_of_getElem? (i := 175) (by decide +kernel), (by decide +kernel)⟩
theorem we175 {c1 : Cond} : (.laysFinal "RollingBalls$Shadow" "RollingBalls$Shadow" "lifts" "[I" : Cond) ∈ c1 :: gT := List.mem_cons_of_mem _ wd175
theorem wd177 : (.laysFinal "RollingBalls$Shadow" "RollingBalls$Shadow" "square" "[I" : Cond) ∈ gT := List.mem_filter.mpr ⟨List.mem_of_getElem? (i := 177) (by decide +kernel), (by decide +kernel)⟩
theorem we177 {c1 : Cond} : (.laysFinal "RollingBalls$Shadow" "RollingBalls$Shadow" "square" "[I" : Cond) ∈ c1 :: gT := List.mem_cons_of_mem _ wd177
theorem wd179 : (.laysFinal "RollingBalls$Shadow" "RollingBalls$Shadow" "side" "I" : Cond) ∈ gT := List.mem_filter.mpr ⟨List.mem_of_getElem? (i := 179) (by decide +kernel), (by decide +kernel)⟩
theorem we179 {c1 : Cond} : (.laysFinal "RollingBalls$Shadow" "RollingBalls$Shadow" "side" "I" : Cond) ∈ c1 :: gT := List.mem_cons_of_mem _ wd179
theorem wd182 : (.methodLink "RollingBalls$Ball" 70 ⟨"java/util/Arrays", "fill", "([II)V"⟩ : Cond) ∈ gT := List.mem_filter.mpr ⟨List.mem_of_getElem? (i := 182) (by decide +kernel), (by decide +kernel)⟩
theorem we182 {c1 : Cond} : (.methodLink "RollingBalls$Ball" 70 ⟨"java/util/Arrays", "fill", "([II)V"⟩ : Cond) ∈ c1 :: gT := List.mem_cons_of_mem _ wd182
theorem wd183 : (.static ⟨"java/util/Arrays", "fill", "([II)V"⟩ : Cond) ∈ gT := List.mem_filter.mpr ⟨List.mem_of_getElem? (i := 183) (by decide +kernel), (by decide +kernel)⟩
theorem we183 {c1 : Cond} : (.static ⟨"java/util/Arrays", "fill", "([II)V"⟩ : Cond) ∈ c1 :: gT := List.mem_cons_of_mem _ wd183
theorem wd184 : (.code ⟨"java/util/Arrays", "fill", "([II)V"⟩ prog_18_method_103_code 4 none : Cond) ∈ gT := List.mem_filter.mpr ⟨List.mem_of_getElem? (i := 184) (by decide +kernel), (by decide +kernel)⟩
theorem we184 {c1 : Cond} : (.code ⟨"java/util/Arrays", "fill", "([II)V"⟩ prog_18_method_103_code 4 none : Cond) ∈ c1 :: gT := List.mem_cons_of_mem _ wd184
theorem wd185 : (.methodLink "RollingBalls$Ball" 82 ⟨"RollingBalls$Ball", "placeIndex", "(II)I"⟩ : Cond) ∈ gT := List.mem_filter.mpr ⟨List.mem_of_getElem? (i := 185) (by decide +kernel), (by decide +kernel)⟩
theorem we185 {c1 : Cond} : (.methodLink "RollingBalls$Ball" 82 ⟨"RollingBalls$Ball", "placeIndex", "(II)I"⟩ : Cond) ∈ c1 :: gT := List.mem_cons_of_mem _ wd185
theorem wd187 : (.instanceMethod ⟨"RollingBalls$Ball", "placeIndex", "(II)I"⟩ : Cond) ∈ gT := List.mem_filter.mpr ⟨List.mem_of_getElem? (i := 187) (by decide +kernel), (by decide +kernel)⟩
theorem we187 {c1 : Cond} : (.instanceMethod ⟨"RollingBalls$Ball", "placeIndex", "(II)I"⟩ : Cond) ∈ c1 :: gT := List.mem_cons_of_mem _ wd187
theorem wd188 : (.code ⟨"RollingBalls$Ball", "placeIndex", "(II)I"⟩ prog_2_method_16_code 3 (some .int) : Cond) ∈ gT := List.mem_filter.mpr ⟨List.mem_of_getElem? (i := 188) (by decide +kernel), (by decide +kernel)⟩
theorem we188 {c1 : Cond} : (.code ⟨"RollingBalls$Ball", "placeIndex", "(II)I"⟩ prog_2_method_16_code 3 (some .int) : Cond) ∈ c1 :: gT := List.mem_cons_of_mem _ wd188
theorem wd189 : (.fieldLink "RollingBalls$Ball" 41 "RollingBalls$Ball" "shadow" "LRollingBalls$Shadow;" : Cond) ∈ gT := List.mem_filter.mpr ⟨List.mem_of_getElem? (i := 189) (by decide +kernel), (by decide +kernel)⟩
theorem we189 {c1 : Cond} : (.fieldLink "RollingBalls$Ball" 41 "RollingBalls$Ball" "shadow" "LRollingBalls$Shadow;" : Cond) ∈ c1 :: gT := List.mem_cons_of_mem _ wd189
theorem wd190 : (.fieldLink "RollingBalls$Plan" 120 "RollingBalls$Ball" "shadow" "LRollingBalls$Shadow;" : Cond) ∈ gT := List.mem_filter.mpr ⟨List.mem_of_getElem? (i := 190) (by decide +kernel), (by decide +kernel)⟩
theorem we190 {c1 : Cond} : (.fieldLink "RollingBalls$Plan" 120 "RollingBalls$Ball" "shadow" "LRollingBalls$Shadow;" : Cond) ∈ c1 :: gT := List.mem_cons_of_mem _ wd190
theorem wd191 : (.fieldLink "RollingBalls$Ball" 48 "RollingBalls$Ball" "homes" "[I" : Cond) ∈ gT := List.mem_filter.mpr ⟨List.mem_of_getElem? (i := 191) (by decide +kernel), (by decide +kernel)⟩
theorem we191 {c1 : Cond} : (.fieldLink "RollingBalls$Ball" 48 "RollingBalls$Ball" "homes" "[I" : Cond) ∈ c1 :: gT := List.mem_cons_of_mem _ wd191
theorem wd192 : (.fieldLink "RollingBalls$Plan" 124 "RollingBalls$Ball" "homes" "[I" : Cond) ∈ gT := List.mem_filter.mpr ⟨List.mem_of_getElem? (i := 192) (by decide +kernel), (by decide +kernel)⟩
theorem we192 {c1 : Cond} : (.fieldLink "RollingBalls$Plan" 124 "RollingBalls$Ball" "homes" "[I" : Cond) ∈ c1 :: gT := List.mem_cons_of_mem _ wd192
theorem wd193 : (.fieldLink "RollingBalls$Ball" 61 "RollingBalls$Ball" "rests" "[I" : Cond) ∈ gT := List.mem_filter.mpr ⟨List.mem_of_getElem? (i := 193) (by decide +kernel), (by decide +kernel)⟩
theorem we193 {c1 : Cond} : (.fieldLink "RollingBalls$Ball" 61 "RollingBalls$Ball" "rests" "[I" : Cond) ∈ c1 :: gT := List.mem_cons_of_mem _ wd193
theorem wd194 : (.fieldLink "RollingBalls$Plan" 138 "RollingBalls$Ball" "rests" "[I" : Cond) ∈ gT := List.mem_filter.mpr ⟨List.mem_of_getElem? (i := 194) (by decide +kernel), (by decide +kernel)⟩
theorem we194 {c1 : Cond} : (.fieldLink "RollingBalls$Plan" 138 "RollingBalls$Ball" "rests" "[I" : Cond) ∈ c1 :: gT := List.mem_cons_of_mem _ wd194
theorem wd195 : (.fieldLink "RollingBalls$Ball" 25 "RollingBalls$Ball" "ground" "I" : Cond) ∈ gT := List.mem_filter.mpr ⟨List.mem_of_getElem? (i := 195) (by decide +kernel), (by decide +kernel)⟩
theorem we195 {c1 : Cond} : (.fieldLink "RollingBalls$Ball" 25 "RollingBalls$Ball" "ground" "I" : Cond) ∈ c1 :: gT := List.mem_cons_of_mem _ wd195
theorem wd196 : (.fieldLink "RollingBalls" 100 "RollingBalls$Ball" "ground" "I" : Cond) ∈ gT := List.mem_filter.mpr ⟨List.mem_of_getElem? (i := 196) (by decide +kernel), (by decide +kernel)⟩
theorem we196 {c1 : Cond} : (.fieldLink "RollingBalls" 100 "RollingBalls$Ball" "ground" "I" : Cond) ∈ c1 :: gT := List.mem_cons_of_mem _ wd196
theorem wd197 : (.fieldLink "RollingBalls$Plan" 163 "RollingBalls$Ball" "ground" "I" : Cond) ∈ gT := List.mem_filter.mpr ⟨List.mem_of_getElem? (i := 197) (by decide +kernel), (by decide +kernel)⟩
theorem we197 {c1 : Cond} : (.fieldLink "RollingBalls$Plan" 163 "RollingBalls$Ball" "ground" "I" : Cond) ∈ c1 :: gT := List.mem_cons_of_mem _ wd197
theorem wd198 : (.fieldLink "RollingBalls$Ball" 64 "RollingBalls$Ball" "owners" "[I" : Cond) ∈ gT := List.mem_filter.mpr ⟨List.mem_of_getElem? (i := 198) (by decide +kernel), (by decide +kernel)⟩
theorem we198 {c1 : Cond} : (.fieldLink "RollingBalls$Ball" 64 "RollingBalls$Ball" "owners" "[I" : Cond) ∈ c1 :: gT := List.mem_cons_of_mem _ wd198
theorem wd199 : (.fieldLink "RollingBalls$Plan" 172 "RollingBalls$Ball" "owners" "[I" : Cond) ∈ gT := List.mem_filter.mpr ⟨List.mem_of_getElem? (i := 199) (by decide +kernel), (by decide +kernel)⟩
theorem we199 {c1 : Cond} : (.fieldLink "RollingBalls$Plan" 172 "RollingBalls$Ball" "owners" "[I" : Cond) ∈ c1 :: gT := List.mem_cons_of_mem _ wd199
theorem wd200 : (.fieldLink "RollingBalls$Ball" 52 "RollingBalls$Ball" "hitCounts" "[I" : Cond) ∈ gT := List.mem_filter.mpr ⟨List.mem_of_getElem? (i := 200) (by decide +kernel), (by decide +kernel)⟩
theorem we200 {c1 : Cond} : (.fieldLink "RollingBalls$Ball" 52 "RollingBalls$Ball" "hitCounts" "[I" : Cond) ∈ c1 :: gT := List.mem_cons_of_mem _ wd200
theorem wd201 : (.fieldLink "RollingBalls" 135 "RollingBalls$Ball" "hitCounts" "[I" : Cond) ∈ gT := List.mem_filter.mpr ⟨List.mem_of_getElem? (i := 201) (by decide +kernel), (by decide +kernel)⟩
theorem we201 {c1 : Cond} : (.fieldLink "RollingBalls" 135 "RollingBalls$Ball" "hitCounts" "[I" : Cond) ∈ c1 :: gT := List.mem_cons_of_mem _ wd201
theorem wd202 : (.fieldLink "RollingBalls$Plan" 127 "RollingBalls$Ball" "hitCounts" "[I" : Cond) ∈ gT := List.mem_filter.mpr ⟨List.mem_of_getElem? (i := 202) (by decide +kernel), (by decide +kernel)⟩
theorem we202 {c1 : Cond} : (.fieldLink "RollingBalls$Plan" 127 "RollingBalls$Ball" "hitCounts" "[I" : Cond) ∈ c1 :: gT := List.mem_cons_of_mem _ wd202
theorem wd203 : (.fieldLink "RollingBalls$Ball" 55 "RollingBalls$Ball" "listed" "[I" : Cond) ∈ gT := List.mem_filter.mpr ⟨List.mem_of_getElem? (i := 203) (by decide +kernel), (by decide +kernel)⟩
theorem we203 {c1 : Cond} : (.fieldLink "RollingBalls$Ball" 55 "RollingBalls$Ball" "listed" "[I" : Cond) ∈ c1 :: gT := List.mem_cons_of_mem _ wd203
theorem wd204 : (.fieldLink "RollingBalls" 120 "RollingBalls$Ball" "listed" "[I" : Cond) ∈ gT := List.mem_filter.mpr ⟨List.mem_of_getElem? (i := 204) (by decide +kernel), (by decide +kernel)⟩
theorem we204 {c1 : Cond} : (.fieldLink "RollingBalls" 120 "RollingBalls$Ball" "listed" "[I" : Cond) ∈ c1 :: gT := List.mem_cons_of_mem _ wd204
theorem wd205 : (.fieldLink "RollingBalls$Plan" 185 "RollingBalls$Ball" "listed" "[I" : Cond) ∈ gT := List.mem_filter.mpr ⟨List.mem_of_getElem? (i := 205) (by decide +kernel), (by decide +kernel)⟩
theorem we205 {c1 : Cond} : (.fieldLink "RollingBalls$Plan" 185 "RollingBalls$Ball" "listed" "[I" : Cond) ∈ c1 :: gT := List.mem_cons_of_mem _ wd205
theorem wd206 : (.fieldLink "RollingBalls$Ball" 9 "RollingBalls$Ball" "listedCount" "I" : Cond) ∈ gT := List.mem_filter.mpr ⟨List.mem_of_getElem? (i := 206) (by decide +kernel), (by decide +kernel)⟩
theorem we206 {c1 : Cond} : (.fieldLink "RollingBalls$Ball" 9 "RollingBalls$Ball" "listedCount" "I" : Cond) ∈ c1 :: gT := List.mem_cons_of_mem _ wd206
theorem wd207 : (.fieldLink "RollingBalls" 117 "RollingBalls$Ball" "listedCount" "I" : Cond) ∈ gT := List.mem_filter.mpr ⟨List.mem_of_getElem? (i := 207) (by decide +kernel), (by decide +kernel)⟩
theorem we207 {c1 : Cond} : (.fieldLink "RollingBalls" 117 "RollingBalls$Ball" "listedCount" "I" : Cond) ∈ c1 :: gT := List.mem_cons_of_mem _ wd207
theorem wd208 : (.fieldLink "RollingBalls$Plan" 182 "RollingBalls$Ball" "listedCount" "I" : Cond) ∈ gT := List.mem_filter.mpr ⟨List.mem_of_getElem? (i := 208) (by decide +kernel), (by decide +kernel)⟩
theorem we208 {c1 : Cond} : (.fieldLink "RollingBalls$Plan" 182 "RollingBalls$Ball" "listedCount" "I" : Cond) ∈ c1 :: gT := List.mem_cons_of_mem _ wd208
theorem wd209 : (.fieldLink "RollingBalls$Ball" 15 "RollingBalls$Ball" "house" "LRollingBalls$House;" : Cond) ∈ gT := List.mem_filter.mpr ⟨List.mem_of_getElem? (i := 209) (by decide +kernel), (by decide +kernel)⟩
theorem we209 {c1 : Cond} : (.fieldLink "RollingBalls$Ball" 15 "RollingBalls$Ball" "house" "LRollingBalls$House;" : Cond) ∈ c1 :: gT := List.mem_cons_of_mem _ wd209
theorem wd210 : (.fieldLink "RollingBalls$Ball" 19 "RollingBalls$Ball" "\x72" "I" : Cond) ∈ gT := List.mem_filter.mpr ⟨List.mem_of_getElem? (i := 210) (by decide +kernel), (by decide +kernel)⟩
theorem we210 {c1 : Cond} : (.fieldLink "RollingBalls$Ball" 19 "RollingBalls$Ball" "\x72" "I" : Cond) ∈ c1 :: gT := List.mem_cons_of_mem _ wd210
theorem wd211 : (.fieldLink "RollingBalls$Ball" 33 "RollingBalls$Ball" "placesAcross" "I" : Cond) ∈ gT := List.mem_filter.mpr ⟨List.mem_of_getElem? (i := 211) (by decide +kernel), (by decide +kernel)⟩
theorem we211 {c1 : Cond} : (.fieldLink "RollingBalls$Ball" 33 "RollingBalls$Ball" "placesAcross" "I" : Cond) ∈ c1 :: gT := List.mem_cons_of_mem _ wd211
theorem wd212 : (.fieldLink "RollingBalls$Ball" 67 "RollingBalls$Ball" "touchCounts" "[I" : Cond) ∈ gT := List.mem_filter.mpr ⟨List.mem_of_getElem? (i := 212) (by decide +kernel), (by decide +kernel)⟩
theorem we212 {c1 : Cond} : (.fieldLink "RollingBalls$Ball" 67 "RollingBalls$Ball" "touchCounts" "[I" : Cond) ∈ c1 :: gT := List.mem_cons_of_mem _ wd212
theorem wd213 : (.laysFinal "RollingBalls$Ball" "RollingBalls$Ball" "shadow" "LRollingBalls$Shadow;" : Cond) ∈ gT := List.mem_filter.mpr ⟨List.mem_of_getElem? (i := 213) (by decide +kernel), (by decide +kernel)⟩
theorem we213 {c1 : Cond} : (.laysFinal "RollingBalls$Ball" "RollingBalls$Ball" "shadow" "LRollingBalls$Shadow;" : Cond) ∈ c1 :: gT := List.mem_cons_of_mem _ wd213
theorem wd215 : (.laysFinal "RollingBalls$Ball" "RollingBalls$Ball" "homes" "[I" : Cond) ∈ gT := List.mem_filter.mpr ⟨List.mem_of_getElem? (i := 215) (by decide +kernel), (by decide +kernel)⟩
theorem we215 {c1 : Cond} : (.laysFinal "RollingBalls$Ball" "RollingBalls$Ball" "homes" "[I" : Cond) ∈ c1 :: gT := List.mem_cons_of_mem _ wd215
theorem wd217 : (.laysFinal "RollingBalls$Ball" "RollingBalls$Ball" "rests" "[I" : Cond) ∈ gT := List.mem_filter.mpr ⟨List.mem_of_getElem? (i := 217) (by decide +kernel), (by decide +kernel)⟩
theorem we217 {c1 : Cond} : (.laysFinal "RollingBalls$Ball" "RollingBalls$Ball" "rests" "[I" : Cond) ∈ c1 :: gT := List.mem_cons_of_mem _ wd217
theorem wd219 : (.laysFinal "RollingBalls$Ball" "RollingBalls$Ball" "ground" "I" : Cond) ∈ gT := List.mem_filter.mpr ⟨List.mem_of_getElem? (i := 219) (by decide +kernel), (by decide +kernel)⟩
theorem we219 {c1 : Cond} : (.laysFinal "RollingBalls$Ball" "RollingBalls$Ball" "ground" "I" : Cond) ∈ c1 :: gT := List.mem_cons_of_mem _ wd219
theorem wd221 : (.laysFinal "RollingBalls$Ball" "RollingBalls$Ball" "owners" "[I" : Cond) ∈ gT := List.mem_filter.mpr ⟨List.mem_of_getElem? (i := 221) (by decide +kernel), (by decide +kernel)⟩
theorem we221 {c1 : Cond} : (.laysFinal "RollingBalls$Ball" "RollingBalls$Ball" "owners" "[I" : Cond) ∈ c1 :: gT := List.mem_cons_of_mem _ wd221
theorem wd223 : (.laysFinal "RollingBalls$Ball" "RollingBalls$Ball" "hitCounts" "[I" : Cond) ∈ gT := List.mem_filter.mpr ⟨List.mem_of_getElem? (i := 223) (by decide +kernel), (by decide +kernel)⟩
theorem we223 {c1 : Cond} : (.laysFinal "RollingBalls$Ball" "RollingBalls$Ball" "hitCounts" "[I" : Cond) ∈ c1 :: gT := List.mem_cons_of_mem _ wd223
theorem wd225 : (.laysFinal "RollingBalls$Ball" "RollingBalls$Ball" "listed" "[I" : Cond) ∈ gT := List.mem_filter.mpr ⟨List.mem_of_getElem? (i := 225) (by decide +kernel), (by decide +kernel)⟩
theorem we225 {c1 : Cond} : (.laysFinal "RollingBalls$Ball" "RollingBalls$Ball" "listed" "[I" : Cond) ∈ c1 :: gT := List.mem_cons_of_mem _ wd225
theorem wd227 : (.lays "RollingBalls$Ball" "RollingBalls$Ball" "listedCount" "I" : Cond) ∈ gT := List.mem_filter.mpr ⟨List.mem_of_getElem? (i := 227) (by decide +kernel), (by decide +kernel)⟩
theorem we227 {c1 : Cond} : (.lays "RollingBalls$Ball" "RollingBalls$Ball" "listedCount" "I" : Cond) ∈ c1 :: gT := List.mem_cons_of_mem _ wd227
theorem wd229 : (.laysFinal "RollingBalls$Ball" "RollingBalls$Ball" "house" "LRollingBalls$House;" : Cond) ∈ gT := List.mem_filter.mpr ⟨List.mem_of_getElem? (i := 229) (by decide +kernel), (by decide +kernel)⟩
theorem we229 {c1 : Cond} : (.laysFinal "RollingBalls$Ball" "RollingBalls$Ball" "house" "LRollingBalls$House;" : Cond) ∈ c1 :: gT := List.mem_cons_of_mem _ wd229
theorem wd231 : (.laysFinal "RollingBalls$Ball" "RollingBalls$Ball" "\x72" "I" : Cond) ∈ gT := List.mem_filter.mpr ⟨List.mem_of_getElem? (i := 231) (by decide +kernel), (by decide +kernel)⟩
theorem we231 {c1 : Cond} : (.laysFinal "RollingBalls$Ball" "RollingBalls$Ball" "\x72" "I" : Cond) ∈ c1 :: gT := List.mem_cons_of_mem _ wd231
theorem wd233 : (.laysFinal "RollingBalls$Ball" "RollingBalls$Ball" "placesAcross" "I" : Cond) ∈ gT := List.mem_filter.mpr ⟨List.mem_of_getElem? (i := 233) (by decide +kernel), (by decide +kernel)⟩
theorem we233 {c1 : Cond} : (.laysFinal "RollingBalls$Ball" "RollingBalls$Ball" "placesAcross" "I" : Cond) ∈ c1 :: gT := List.mem_cons_of_mem _ wd233
theorem wd235 : (.laysFinal "RollingBalls$Ball" "RollingBalls$Ball" "touchCounts" "[I" : Cond) ∈ gT := List.mem_filter.mpr ⟨List.mem_of_getElem? (i := 235) (by decide +kernel), (by decide +kernel)⟩
theorem we235 {c1 : Cond} : (.laysFinal "RollingBalls$Ball" "RollingBalls$Ball" "touchCounts" "[I" : Cond) ∈ c1 :: gT := List.mem_cons_of_mem _ wd235
theorem wd238 : (.classLink "RollingBalls" 41 "RollingBalls$Plan" : Cond) ∈ gT := List.mem_filter.mpr ⟨List.mem_of_getElem? (i := 238) (by decide +kernel), (by decide +kernel)⟩
theorem we238 {c1 : Cond} : (.classLink "RollingBalls" 41 "RollingBalls$Plan" : Cond) ∈ c1 :: gT := List.mem_cons_of_mem _ wd238
theorem wd239 : (.instantiable "RollingBalls$Plan" 12 : Cond) ∈ gT := List.mem_filter.mpr ⟨List.mem_of_getElem? (i := 239) (by decide +kernel), (by decide +kernel)⟩
theorem we239 {c1 : Cond} : (.instantiable "RollingBalls$Plan" 12 : Cond) ∈ c1 :: gT := List.mem_cons_of_mem _ wd239
theorem wd240 : (.methodLink "RollingBalls" 43 ⟨"RollingBalls$Plan", "<init>", "(LRollingBalls$House;LRollingBalls$Ball;)V"⟩ : Cond) ∈ gT := List.mem_filter.mpr ⟨List.mem_of_getElem? (i := 240) (by decide +kernel), (by decide +kernel)⟩
theorem we240 {c1 : Cond} : (.methodLink "RollingBalls" 43 ⟨"RollingBalls$Plan", "<init>", "(LRollingBalls$House;LRollingBalls$Ball;)V"⟩ : Cond) ∈ c1 :: gT := List.mem_cons_of_mem _ wd240
theorem wd241 : (.instanceMethod ⟨"RollingBalls$Plan", "<init>", "(LRollingBalls$House;LRollingBalls$Ball;)V"⟩ : Cond) ∈ gT := List.mem_filter.mpr ⟨List.mem_of_getElem? (i := 241) (by decide +kernel), (by decide +kernel)⟩
theorem we241 {c1 : Cond} : (.instanceMethod ⟨"RollingBalls$Plan", "<init>", "(LRollingBalls$House;LRollingBalls$Ball;)V"⟩ : Cond) ∈ c1 :: gT := List.mem_cons_of_mem _ wd241
theorem wd242 : (.code ⟨"RollingBalls$Plan", "<init>", "(LRollingBalls$House;LRollingBalls$Ball;)V"⟩ prog_5_method_1_code 3 none : Cond) ∈ gT := List.mem_filter.mpr ⟨List.mem_of_getElem? (i := 242) (by decide +kernel), (by decide +kernel)⟩
theorem we242 {c1 : Cond} : (.code ⟨"RollingBalls$Plan", "<init>", "(LRollingBalls$House;LRollingBalls$Ball;)V"⟩ prog_5_method_1_code 3 none : Cond) ∈ c1 :: gT := List.mem_cons_of_mem _ wd242
theorem wd243 : (.methodLink "RollingBalls$Plan" 5 ⟨"java/lang/Object", "<init>", "()V"⟩ : Cond) ∈ gT := List.mem_filter.mpr ⟨List.mem_of_getElem? (i := 243) (by decide +kernel), (by decide +kernel)⟩
theorem we243 {c1 : Cond} : (.methodLink "RollingBalls$Plan" 5 ⟨"java/lang/Object", "<init>", "()V"⟩ : Cond) ∈ c1 :: gT := List.mem_cons_of_mem _ wd243
theorem wd244 : (.fieldLink "RollingBalls$Plan" 11 "RollingBalls$Plan" "candidatePoints" "[I" : Cond) ∈ gT := List.mem_filter.mpr ⟨List.mem_of_getElem? (i := 244) (by decide +kernel), (by decide +kernel)⟩
theorem we244 {c1 : Cond} : (.fieldLink "RollingBalls$Plan" 11 "RollingBalls$Plan" "candidatePoints" "[I" : Cond) ∈ c1 :: gT := List.mem_cons_of_mem _ wd244
theorem wd245 : (.fieldLink "RollingBalls" 169 "RollingBalls$Plan" "candidatePoints" "[I" : Cond) ∈ gT := List.mem_filter.mpr ⟨List.mem_of_getElem? (i := 245) (by decide +kernel), (by decide +kernel)⟩
theorem we245 {c1 : Cond} : (.fieldLink "RollingBalls" 169 "RollingBalls$Plan" "candidatePoints" "[I" : Cond) ∈ c1 :: gT := List.mem_cons_of_mem _ wd245
theorem wd246 : (.fieldLink "RollingBalls$Plan" 15 "RollingBalls$Plan" "candidateLengths" "[I" : Cond) ∈ gT := List.mem_filter.mpr ⟨List.mem_of_getElem? (i := 246) (by decide +kernel), (by decide +kernel)⟩
theorem we246 {c1 : Cond} : (.fieldLink "RollingBalls$Plan" 15 "RollingBalls$Plan" "candidateLengths" "[I" : Cond) ∈ c1 :: gT := List.mem_cons_of_mem _ wd246
theorem wd247 : (.fieldLink "RollingBalls" 172 "RollingBalls$Plan" "candidateLengths" "[I" : Cond) ∈ gT := List.mem_filter.mpr ⟨List.mem_of_getElem? (i := 247) (by decide +kernel), (by decide +kernel)⟩
theorem we247 {c1 : Cond} : (.fieldLink "RollingBalls" 172 "RollingBalls$Plan" "candidateLengths" "[I" : Cond) ∈ c1 :: gT := List.mem_cons_of_mem _ wd247
theorem wd248 : (.fieldLink "RollingBalls$Plan" 18 "RollingBalls$Plan" "candidates" "I" : Cond) ∈ gT := List.mem_filter.mpr ⟨List.mem_of_getElem? (i := 248) (by decide +kernel), (by decide +kernel)⟩
theorem we248 {c1 : Cond} : (.fieldLink "RollingBalls$Plan" 18 "RollingBalls$Plan" "candidates" "I" : Cond) ∈ c1 :: gT := List.mem_cons_of_mem _ wd248
theorem wd249 : (.fieldLink "RollingBalls" 156 "RollingBalls$Plan" "candidates" "I" : Cond) ∈ gT := List.mem_filter.mpr ⟨List.mem_of_getElem? (i := 249) (by decide +kernel), (by decide +kernel)⟩
theorem we249 {c1 : Cond} : (.fieldLink "RollingBalls" 156 "RollingBalls$Plan" "candidates" "I" : Cond) ∈ c1 :: gT := List.mem_cons_of_mem _ wd249
theorem wd250 : (.fieldLink "RollingBalls$Plan" 50 "RollingBalls$Plan" "wanted" "[Z" : Cond) ∈ gT := List.mem_filter.mpr ⟨List.mem_of_getElem? (i := 250) (by decide +kernel), (by decide +kernel)⟩
theorem we250 {c1 : Cond} : (.fieldLink "RollingBalls$Plan" 50 "RollingBalls$Plan" "wanted" "[Z" : Cond) ∈ c1 :: gT := List.mem_cons_of_mem _ wd250
theorem wd251 : (.fieldLink "RollingBalls" 159 "RollingBalls$Plan" "wanted" "[Z" : Cond) ∈ gT := List.mem_filter.mpr ⟨List.mem_of_getElem? (i := 251) (by decide +kernel), (by decide +kernel)⟩
theorem we251 {c1 : Cond} : (.fieldLink "RollingBalls" 159 "RollingBalls$Plan" "wanted" "[Z" : Cond) ∈ c1 :: gT := List.mem_cons_of_mem _ wd251
theorem wd252 : (.fieldLink "RollingBalls$Plan" 37 "RollingBalls$Plan" "house" "LRollingBalls$House;" : Cond) ∈ gT := List.mem_filter.mpr ⟨List.mem_of_getElem? (i := 252) (by decide +kernel), (by decide +kernel)⟩
theorem we252 {c1 : Cond} : (.fieldLink "RollingBalls$Plan" 37 "RollingBalls$Plan" "house" "LRollingBalls$House;" : Cond) ∈ c1 :: gT := List.mem_cons_of_mem _ wd252
theorem wd253 : (.fieldLink "RollingBalls$Plan" 41 "RollingBalls$Plan" "ball" "LRollingBalls$Ball;" : Cond) ∈ gT := List.mem_filter.mpr ⟨List.mem_of_getElem? (i := 253) (by decide +kernel), (by decide +kernel)⟩
theorem we253 {c1 : Cond} : (.fieldLink "RollingBalls$Plan" 41 "RollingBalls$Plan" "ball" "LRollingBalls$Ball;" : Cond) ∈ c1 :: gT := List.mem_cons_of_mem _ wd253
theorem wd254 : (.fieldLink "RollingBalls$Plan" 22 "RollingBalls$Plan" "choicePoints" "[I" : Cond) ∈ gT := List.mem_filter.mpr ⟨List.mem_of_getElem? (i := 254) (by decide +kernel), (by decide +kernel)⟩
theorem we254 {c1 : Cond} : (.fieldLink "RollingBalls$Plan" 22 "RollingBalls$Plan" "choicePoints" "[I" : Cond) ∈ c1 :: gT := List.mem_cons_of_mem _ wd254
theorem wd255 : (.fieldLink "RollingBalls$Plan" 25 "RollingBalls$Plan" "choiceTips" "[I" : Cond) ∈ gT := List.mem_filter.mpr ⟨List.mem_of_getElem? (i := 255) (by decide +kernel), (by decide +kernel)⟩
theorem we255 {c1 : Cond} : (.fieldLink "RollingBalls$Plan" 25 "RollingBalls$Plan" "choiceTips" "[I" : Cond) ∈ c1 :: gT := List.mem_cons_of_mem _ wd255
theorem wd256 : (.fieldLink "RollingBalls$Plan" 28 "RollingBalls$Plan" "choiceSets" "[I" : Cond) ∈ gT := List.mem_filter.mpr ⟨List.mem_of_getElem? (i := 256) (by decide +kernel), (by decide +kernel)⟩
theorem we256 {c1 : Cond} : (.fieldLink "RollingBalls$Plan" 28 "RollingBalls$Plan" "choiceSets" "[I" : Cond) ∈ c1 :: gT := List.mem_cons_of_mem _ wd256
theorem wd257 : (.fieldLink "RollingBalls$Plan" 31 "RollingBalls$Plan" "choices" "I" : Cond) ∈ gT := List.mem_filter.mpr ⟨List.mem_of_getElem? (i := 257) (by decide +kernel), (by decide +kernel)⟩
theorem we257 {c1 : Cond} : (.fieldLink "RollingBalls$Plan" 31 "RollingBalls$Plan" "choices" "I" : Cond) ∈ c1 :: gT := List.mem_cons_of_mem _ wd257
theorem wd258 : (.fieldLink "RollingBalls$Plan" 34 "RollingBalls$Plan" "sinkingSets" "I" : Cond) ∈ gT := List.mem_filter.mpr ⟨List.mem_of_getElem? (i := 258) (by decide +kernel), (by decide +kernel)⟩
theorem we258 {c1 : Cond} : (.fieldLink "RollingBalls$Plan" 34 "RollingBalls$Plan" "sinkingSets" "I" : Cond) ∈ c1 :: gT := List.mem_cons_of_mem _ wd258
theorem wd259 : (.fieldLink "RollingBalls$Plan" 54 "RollingBalls$Plan" "lowTips" "[I" : Cond) ∈ gT := List.mem_filter.mpr ⟨List.mem_of_getElem? (i := 259) (by decide +kernel), (by decide +kernel)⟩
theorem we259 {c1 : Cond} : (.fieldLink "RollingBalls$Plan" 54 "RollingBalls$Plan" "lowTips" "[I" : Cond) ∈ c1 :: gT := List.mem_cons_of_mem _ wd259
theorem wd260 : (.laysFinal "RollingBalls$Plan" "RollingBalls$Plan" "candidatePoints" "[I" : Cond) ∈ gT := List.mem_filter.mpr ⟨List.mem_of_getElem? (i := 260) (by decide +kernel), (by decide +kernel)⟩
theorem we260 {c1 : Cond} : (.laysFinal "RollingBalls$Plan" "RollingBalls$Plan" "candidatePoints" "[I" : Cond) ∈ c1 :: gT := List.mem_cons_of_mem _ wd260
theorem wd262 : (.laysFinal "RollingBalls$Plan" "RollingBalls$Plan" "candidateLengths" "[I" : Cond) ∈ gT := List.mem_filter.mpr ⟨List.mem_of_getElem? (i := 262) (by decide +kernel), (by decide +kernel)⟩
theorem we262 {c1 : Cond} : (.laysFinal "RollingBalls$Plan" "RollingBalls$Plan" "candidateLengths" "[I" : Cond) ∈ c1 :: gT := List.mem_cons_of_mem _ wd262
theorem wd264 : (.lays "RollingBalls$Plan" "RollingBalls$Plan" "candidates" "I" : Cond) ∈ gT := List.mem_filter.mpr ⟨List.mem_of_getElem? (i := 264) (by decide +kernel), (by decide +kernel)⟩
theorem we264 {c1 : Cond} : (.lays "RollingBalls$Plan" "RollingBalls$Plan" "candidates" "I" : Cond) ∈ c1 :: gT := List.mem_cons_of_mem _ wd264
theorem wd266 : (.laysFinal "RollingBalls$Plan" "RollingBalls$Plan" "wanted" "[Z" : Cond) ∈ gT := List.mem_filter.mpr ⟨List.mem_of_getElem? (i := 266) (by decide +kernel), (by decide +kernel)⟩
theorem we266 {c1 : Cond} : (.laysFinal "RollingBalls$Plan" "RollingBalls$Plan" "wanted" "[Z" : Cond) ∈ c1 :: gT := List.mem_cons_of_mem _ wd266
theorem wd268 : (.laysFinal "RollingBalls$Plan" "RollingBalls$Plan" "house" "LRollingBalls$House;" : Cond) ∈ gT := List.mem_filter.mpr ⟨List.mem_of_getElem? (i := 268) (by decide +kernel), (by decide +kernel)⟩
theorem we268 {c1 : Cond} : (.laysFinal "RollingBalls$Plan" "RollingBalls$Plan" "house" "LRollingBalls$House;" : Cond) ∈ c1 :: gT := List.mem_cons_of_mem _ wd268
theorem wd270 : (.laysFinal "RollingBalls$Plan" "RollingBalls$Plan" "ball" "LRollingBalls$Ball;" : Cond) ∈ gT := List.mem_filter.mpr ⟨List.mem_of_getElem? (i := 270) (by decide +kernel), (by decide +kernel)⟩
theorem we270 {c1 : Cond} : (.laysFinal "RollingBalls$Plan" "RollingBalls$Plan" "ball" "LRollingBalls$Ball;" : Cond) ∈ c1 :: gT := List.mem_cons_of_mem _ wd270
theorem wd272 : (.laysFinal "RollingBalls$Plan" "RollingBalls$Plan" "choicePoints" "[I" : Cond) ∈ gT := List.mem_filter.mpr ⟨List.mem_of_getElem? (i := 272) (by decide +kernel), (by decide +kernel)⟩
theorem we272 {c1 : Cond} : (.laysFinal "RollingBalls$Plan" "RollingBalls$Plan" "choicePoints" "[I" : Cond) ∈ c1 :: gT := List.mem_cons_of_mem _ wd272
theorem wd274 : (.laysFinal "RollingBalls$Plan" "RollingBalls$Plan" "choiceTips" "[I" : Cond) ∈ gT := List.mem_filter.mpr ⟨List.mem_of_getElem? (i := 274) (by decide +kernel), (by decide +kernel)⟩
theorem we274 {c1 : Cond} : (.laysFinal "RollingBalls$Plan" "RollingBalls$Plan" "choiceTips" "[I" : Cond) ∈ c1 :: gT := List.mem_cons_of_mem _ wd274
theorem wd276 : (.laysFinal "RollingBalls$Plan" "RollingBalls$Plan" "choiceSets" "[I" : Cond) ∈ gT := List.mem_filter.mpr ⟨List.mem_of_getElem? (i := 276) (by decide +kernel), (by decide +kernel)⟩
theorem we276 {c1 : Cond} : (.laysFinal "RollingBalls$Plan" "RollingBalls$Plan" "choiceSets" "[I" : Cond) ∈ c1 :: gT := List.mem_cons_of_mem _ wd276
theorem wd278 : (.lays "RollingBalls$Plan" "RollingBalls$Plan" "choices" "I" : Cond) ∈ gT := List.mem_filter.mpr ⟨List.mem_of_getElem? (i := 278) (by decide +kernel), (by decide +kernel)⟩
theorem we278 {c1 : Cond} : (.lays "RollingBalls$Plan" "RollingBalls$Plan" "choices" "I" : Cond) ∈ c1 :: gT := List.mem_cons_of_mem _ wd278
theorem wd280 : (.lays "RollingBalls$Plan" "RollingBalls$Plan" "sinkingSets" "I" : Cond) ∈ gT := List.mem_filter.mpr ⟨List.mem_of_getElem? (i := 280) (by decide +kernel), (by decide +kernel)⟩
theorem we280 {c1 : Cond} : (.lays "RollingBalls$Plan" "RollingBalls$Plan" "sinkingSets" "I" : Cond) ∈ c1 :: gT := List.mem_cons_of_mem _ wd280
theorem wd282 : (.laysFinal "RollingBalls$Plan" "RollingBalls$Plan" "lowTips" "[I" : Cond) ∈ gT := List.mem_filter.mpr ⟨List.mem_of_getElem? (i := 282) (by decide +kernel), (by decide +kernel)⟩
theorem we282 {c1 : Cond} : (.laysFinal "RollingBalls$Plan" "RollingBalls$Plan" "lowTips" "[I" : Cond) ∈ c1 :: gT := List.mem_cons_of_mem _ wd282
theorem wd285 : (.arrayClass .boolean : Cond) ∈ gT := List.mem_filter.mpr ⟨List.mem_of_getElem? (i := 285) (by decide +kernel), (by decide +kernel)⟩
theorem we285 {c1 : Cond} : (.arrayClass .boolean : Cond) ∈ c1 :: gT := List.mem_cons_of_mem _ wd285
theorem wd286 : (.fieldLink "RollingBalls" 13 "RollingBalls" "w" "I" : Cond) ∈ gT := List.mem_filter.mpr ⟨List.mem_of_getElem? (i := 286) (by decide +kernel), (by decide +kernel)⟩
theorem we286 {c1 : Cond} : (.fieldLink "RollingBalls" 13 "RollingBalls" "w" "I" : Cond) ∈ c1 :: gT := List.mem_cons_of_mem _ wd286
theorem wd287 : (.fieldLink "RollingBalls" 17 "RollingBalls" "d" "I" : Cond) ∈ gT := List.mem_filter.mpr ⟨List.mem_of_getElem? (i := 287) (by decide +kernel), (by decide +kernel)⟩
theorem we287 {c1 : Cond} : (.fieldLink "RollingBalls" 17 "RollingBalls" "d" "I" : Cond) ∈ c1 :: gT := List.mem_cons_of_mem _ wd287
theorem wd288 : (.fieldLink "RollingBalls" 20 "RollingBalls" "\x72" "I" : Cond) ∈ gT := List.mem_filter.mpr ⟨List.mem_of_getElem? (i := 288) (by decide +kernel), (by decide +kernel)⟩
theorem we288 {c1 : Cond} : (.fieldLink "RollingBalls" 20 "RollingBalls" "\x72" "I" : Cond) ∈ c1 :: gT := List.mem_cons_of_mem _ wd288
theorem wd289 : (.fieldLink "RollingBalls" 28 "RollingBalls" "house" "LRollingBalls$House;" : Cond) ∈ gT := List.mem_filter.mpr ⟨List.mem_of_getElem? (i := 289) (by decide +kernel), (by decide +kernel)⟩
theorem we289 {c1 : Cond} : (.fieldLink "RollingBalls" 28 "RollingBalls" "house" "LRollingBalls$House;" : Cond) ∈ c1 :: gT := List.mem_cons_of_mem _ wd289
theorem wd290 : (.fieldLink "RollingBalls" 37 "RollingBalls" "ball" "LRollingBalls$Ball;" : Cond) ∈ gT := List.mem_filter.mpr ⟨List.mem_of_getElem? (i := 290) (by decide +kernel), (by decide +kernel)⟩
theorem we290 {c1 : Cond} : (.fieldLink "RollingBalls" 37 "RollingBalls" "ball" "LRollingBalls$Ball;" : Cond) ∈ c1 :: gT := List.mem_cons_of_mem _ wd290
theorem wd291 : (.fieldLink "RollingBalls" 46 "RollingBalls" "plan" "LRollingBalls$Plan;" : Cond) ∈ gT := List.mem_filter.mpr ⟨List.mem_of_getElem? (i := 291) (by decide +kernel), (by decide +kernel)⟩
theorem we291 {c1 : Cond} : (.fieldLink "RollingBalls" 46 "RollingBalls" "plan" "LRollingBalls$Plan;" : Cond) ∈ c1 :: gT := List.mem_cons_of_mem _ wd291
theorem wd292 : (.fieldLink "RollingBalls" 53 "RollingBalls" "safeBefore" "[Z" : Cond) ∈ gT := List.mem_filter.mpr ⟨List.mem_of_getElem? (i := 292) (by decide +kernel), (by decide +kernel)⟩
theorem we292 {c1 : Cond} : (.fieldLink "RollingBalls" 53 "RollingBalls" "safeBefore" "[Z" : Cond) ∈ c1 :: gT := List.mem_cons_of_mem _ wd292
theorem wd293 : (.laysFinal "RollingBalls" "RollingBalls" "w" "I" : Cond) ∈ gT := List.mem_filter.mpr ⟨List.mem_of_getElem? (i := 293) (by decide +kernel), (by decide +kernel)⟩
theorem we293 {c1 : Cond} : (.laysFinal "RollingBalls" "RollingBalls" "w" "I" : Cond) ∈ c1 :: gT := List.mem_cons_of_mem _ wd293
theorem wd295 : (.laysFinal "RollingBalls" "RollingBalls" "d" "I" : Cond) ∈ gT := List.mem_filter.mpr ⟨List.mem_of_getElem? (i := 295) (by decide +kernel), (by decide +kernel)⟩
theorem we295 {c1 : Cond} : (.laysFinal "RollingBalls" "RollingBalls" "d" "I" : Cond) ∈ c1 :: gT := List.mem_cons_of_mem _ wd295
theorem wd297 : (.laysFinal "RollingBalls" "RollingBalls" "\x72" "I" : Cond) ∈ gT := List.mem_filter.mpr ⟨List.mem_of_getElem? (i := 297) (by decide +kernel), (by decide +kernel)⟩
theorem we297 {c1 : Cond} : (.laysFinal "RollingBalls" "RollingBalls" "\x72" "I" : Cond) ∈ c1 :: gT := List.mem_cons_of_mem _ wd297
theorem wd299 : (.laysFinal "RollingBalls" "RollingBalls" "house" "LRollingBalls$House;" : Cond) ∈ gT := List.mem_filter.mpr ⟨List.mem_of_getElem? (i := 299) (by decide +kernel), (by decide +kernel)⟩
theorem we299 {c1 : Cond} : (.laysFinal "RollingBalls" "RollingBalls" "house" "LRollingBalls$House;" : Cond) ∈ c1 :: gT := List.mem_cons_of_mem _ wd299
theorem wd301 : (.laysFinal "RollingBalls" "RollingBalls" "ball" "LRollingBalls$Ball;" : Cond) ∈ gT := List.mem_filter.mpr ⟨List.mem_of_getElem? (i := 301) (by decide +kernel), (by decide +kernel)⟩
theorem we301 {c1 : Cond} : (.laysFinal "RollingBalls" "RollingBalls" "ball" "LRollingBalls$Ball;" : Cond) ∈ c1 :: gT := List.mem_cons_of_mem _ wd301
theorem wd303 : (.laysFinal "RollingBalls" "RollingBalls" "plan" "LRollingBalls$Plan;" : Cond) ∈ gT := List.mem_filter.mpr ⟨List.mem_of_getElem? (i := 303) (by decide +kernel), (by decide +kernel)⟩
theorem we303 {c1 : Cond} : (.laysFinal "RollingBalls" "RollingBalls" "plan" "LRollingBalls$Plan;" : Cond) ∈ c1 :: gT := List.mem_cons_of_mem _ wd303
theorem wd305 : (.laysFinal "RollingBalls" "RollingBalls" "safeBefore" "[Z" : Cond) ∈ gT := List.mem_filter.mpr ⟨List.mem_of_getElem? (i := 305) (by decide +kernel), (by decide +kernel)⟩
theorem we305 {c1 : Cond} : (.laysFinal "RollingBalls" "RollingBalls" "safeBefore" "[Z" : Cond) ∈ c1 :: gT := List.mem_cons_of_mem _ wd305
theorem wd308 : (.methodLink "RollingBallsLaw" 81 ⟨"RollingBalls", "tops", "()I"⟩ : Cond) ∈ gT := List.mem_filter.mpr ⟨List.mem_of_getElem? (i := 308) (by decide +kernel), (by decide +kernel)⟩
theorem we308 {c1 : Cond} : (.methodLink "RollingBallsLaw" 81 ⟨"RollingBalls", "tops", "()I"⟩ : Cond) ∈ c1 :: gT := List.mem_cons_of_mem _ wd308
theorem wd309 : (.instanceMethod ⟨"RollingBalls", "tops", "()I"⟩ : Cond) ∈ gT := List.mem_filter.mpr ⟨List.mem_of_getElem? (i := 309) (by decide +kernel), (by decide +kernel)⟩
theorem we309 {c1 : Cond} : (.instanceMethod ⟨"RollingBalls", "tops", "()I"⟩ : Cond) ∈ c1 :: gT := List.mem_cons_of_mem _ wd309
theorem wd310 : (.selects "RollingBalls" ⟨"RollingBalls", "tops", "()I"⟩ ⟨"RollingBalls", "tops", "()I"⟩ : Cond) ∈ gT := List.mem_filter.mpr ⟨List.mem_of_getElem? (i := 310) (by decide +kernel), (by decide +kernel)⟩
theorem we310 {c1 : Cond} : (.selects "RollingBalls" ⟨"RollingBalls", "tops", "()I"⟩ ⟨"RollingBalls", "tops", "()I"⟩ : Cond) ∈ c1 :: gT := List.mem_cons_of_mem _ wd310
theorem wd311 : (.code ⟨"RollingBalls", "tops", "()I"⟩ prog_1_method_7_code 1 (some .int) : Cond) ∈ gT := List.mem_filter.mpr ⟨List.mem_of_getElem? (i := 311) (by decide +kernel), (by decide +kernel)⟩
theorem we311 {c1 : Cond} : (.code ⟨"RollingBalls", "tops", "()I"⟩ prog_1_method_7_code 1 (some .int) : Cond) ∈ c1 :: gT := List.mem_cons_of_mem _ wd311
theorem wd312 : (.methodLink "RollingBalls" 131 ⟨"RollingBalls$Ball", "countHighestPlaces", "()I"⟩ : Cond) ∈ gT := List.mem_filter.mpr ⟨List.mem_of_getElem? (i := 312) (by decide +kernel), (by decide +kernel)⟩
theorem we312 {c1 : Cond} : (.methodLink "RollingBalls" 131 ⟨"RollingBalls$Ball", "countHighestPlaces", "()I"⟩ : Cond) ∈ c1 :: gT := List.mem_cons_of_mem _ wd312
theorem wd313 : (.instanceMethod ⟨"RollingBalls$Ball", "countHighestPlaces", "()I"⟩ : Cond) ∈ gT := List.mem_filter.mpr ⟨List.mem_of_getElem? (i := 313) (by decide +kernel), (by decide +kernel)⟩
theorem we313 {c1 : Cond} : (.instanceMethod ⟨"RollingBalls$Ball", "countHighestPlaces", "()I"⟩ : Cond) ∈ c1 :: gT := List.mem_cons_of_mem _ wd313
theorem wd314 : (.selects "RollingBalls$Ball" ⟨"RollingBalls$Ball", "countHighestPlaces", "()I"⟩ ⟨"RollingBalls$Ball", "countHighestPlaces", "()I"⟩ : Cond) ∈ gT := List.mem_filter.mpr ⟨List.mem_of_getElem? (i := 314) (by decide +kernel), (by decide +kernel)⟩
theorem we314 {c1 : Cond} : (.selects "RollingBalls$Ball" ⟨"RollingBalls$Ball", "countHighestPlaces", "()I"⟩ ⟨"RollingBalls$Ball", "countHighestPlaces", "()I"⟩ : Cond) ∈ c1 :: gT := List.mem_cons_of_mem _ wd314
theorem wd315 : (.code ⟨"RollingBalls$Ball", "countHighestPlaces", "()I"⟩ prog_2_method_6_code 7 (some .int) : Cond) ∈ gT := List.mem_filter.mpr ⟨List.mem_of_getElem? (i := 315) (by decide +kernel), (by decide +kernel)⟩
theorem we315 {c1 : Cond} : (.code ⟨"RollingBalls$Ball", "countHighestPlaces", "()I"⟩ prog_2_method_6_code 7 (some .int) : Cond) ∈ c1 :: gT := List.mem_cons_of_mem _ wd315
theorem wd316 : (.methodLink "RollingBallsLaw" 99 ⟨"RollingBalls", "forget", "()I"⟩ : Cond) ∈ gT := List.mem_filter.mpr ⟨List.mem_of_getElem? (i := 316) (by decide +kernel), (by decide +kernel)⟩
theorem we316 {c1 : Cond} : (.methodLink "RollingBallsLaw" 99 ⟨"RollingBalls", "forget", "()I"⟩ : Cond) ∈ c1 :: gT := List.mem_cons_of_mem _ wd316
theorem wd317 : (.instanceMethod ⟨"RollingBalls", "forget", "()I"⟩ : Cond) ∈ gT := List.mem_filter.mpr ⟨List.mem_of_getElem? (i := 317) (by decide +kernel), (by decide +kernel)⟩
theorem we317 {c1 : Cond} : (.instanceMethod ⟨"RollingBalls", "forget", "()I"⟩ : Cond) ∈ c1 :: gT := List.mem_cons_of_mem _ wd317
theorem wd318 : (.selects "RollingBalls" ⟨"RollingBalls", "forget", "()I"⟩ ⟨"RollingBalls", "forget", "()I"⟩ : Cond) ∈ gT := List.mem_filter.mpr ⟨List.mem_of_getElem? (i := 318) (by decide +kernel), (by decide +kernel)⟩
theorem we318 {c1 : Cond} : (.selects "RollingBalls" ⟨"RollingBalls", "forget", "()I"⟩ ⟨"RollingBalls", "forget", "()I"⟩ : Cond) ∈ c1 :: gT := List.mem_cons_of_mem _ wd318
theorem wd319 : (.code ⟨"RollingBalls", "forget", "()I"⟩ prog_1_method_12_code 2 (some .int) : Cond) ∈ gT := List.mem_filter.mpr ⟨List.mem_of_getElem? (i := 319) (by decide +kernel), (by decide +kernel)⟩
theorem we319 {c1 : Cond} : (.code ⟨"RollingBalls", "forget", "()I"⟩ prog_1_method_12_code 2 (some .int) : Cond) ∈ c1 :: gT := List.mem_cons_of_mem _ wd319
theorem wd320 : (.methodLink "RollingBallsLaw" 107 ⟨"RollingBalls", "choose", "()I"⟩ : Cond) ∈ gT := List.mem_filter.mpr ⟨List.mem_of_getElem? (i := 320) (by decide +kernel), (by decide +kernel)⟩
theorem we320 {c1 : Cond} : (.methodLink "RollingBallsLaw" 107 ⟨"RollingBalls", "choose", "()I"⟩ : Cond) ∈ c1 :: gT := List.mem_cons_of_mem _ wd320
theorem wd321 : (.instanceMethod ⟨"RollingBalls", "choose", "()I"⟩ : Cond) ∈ gT := List.mem_filter.mpr ⟨List.mem_of_getElem? (i := 321) (by decide +kernel), (by decide +kernel)⟩
theorem we321 {c1 : Cond} : (.instanceMethod ⟨"RollingBalls", "choose", "()I"⟩ : Cond) ∈ c1 :: gT := List.mem_cons_of_mem _ wd321
theorem wd322 : (.selects "RollingBalls" ⟨"RollingBalls", "choose", "()I"⟩ ⟨"RollingBalls", "choose", "()I"⟩ : Cond) ∈ gT := List.mem_filter.mpr ⟨List.mem_of_getElem? (i := 322) (by decide +kernel), (by decide +kernel)⟩
theorem we322 {c1 : Cond} : (.selects "RollingBalls" ⟨"RollingBalls", "choose", "()I"⟩ ⟨"RollingBalls", "choose", "()I"⟩ : Cond) ∈ c1 :: gT := List.mem_cons_of_mem _ wd322
theorem wd323 : (.code ⟨"RollingBalls", "choose", "()I"⟩ prog_1_method_14_code 1 (some .int) : Cond) ∈ gT := List.mem_filter.mpr ⟨List.mem_of_getElem? (i := 323) (by decide +kernel), (by decide +kernel)⟩
theorem we323 {c1 : Cond} : (.code ⟨"RollingBalls", "choose", "()I"⟩ prog_1_method_14_code 1 (some .int) : Cond) ∈ c1 :: gT := List.mem_cons_of_mem _ wd323
theorem wd324 : (.methodLink "RollingBalls" 162 ⟨"RollingBalls$Plan", "bestSet", "()I"⟩ : Cond) ∈ gT := List.mem_filter.mpr ⟨List.mem_of_getElem? (i := 324) (by decide +kernel), (by decide +kernel)⟩
theorem we324 {c1 : Cond} : (.methodLink "RollingBalls" 162 ⟨"RollingBalls$Plan", "bestSet", "()I"⟩ : Cond) ∈ c1 :: gT := List.mem_cons_of_mem _ wd324
theorem wd325 : (.instanceMethod ⟨"RollingBalls$Plan", "bestSet", "()I"⟩ : Cond) ∈ gT := List.mem_filter.mpr ⟨List.mem_of_getElem? (i := 325) (by decide +kernel), (by decide +kernel)⟩
theorem we325 {c1 : Cond} : (.instanceMethod ⟨"RollingBalls$Plan", "bestSet", "()I"⟩ : Cond) ∈ c1 :: gT := List.mem_cons_of_mem _ wd325
theorem wd326 : (.selects "RollingBalls$Plan" ⟨"RollingBalls$Plan", "bestSet", "()I"⟩ ⟨"RollingBalls$Plan", "bestSet", "()I"⟩ : Cond) ∈ gT := List.mem_filter.mpr ⟨List.mem_of_getElem? (i := 326) (by decide +kernel), (by decide +kernel)⟩
theorem we326 {c1 : Cond} : (.selects "RollingBalls$Plan" ⟨"RollingBalls$Plan", "bestSet", "()I"⟩ ⟨"RollingBalls$Plan", "bestSet", "()I"⟩ : Cond) ∈ c1 :: gT := List.mem_cons_of_mem _ wd326
theorem wd327 : (.code ⟨"RollingBalls$Plan", "bestSet", "()I"⟩ prog_5_method_5_code 4 (some .int) : Cond) ∈ gT := List.mem_filter.mpr ⟨List.mem_of_getElem? (i := 327) (by decide +kernel), (by decide +kernel)⟩
theorem we327 {c1 : Cond} : (.code ⟨"RollingBalls$Plan", "bestSet", "()I"⟩ prog_5_method_5_code 4 (some .int) : Cond) ∈ c1 :: gT := List.mem_cons_of_mem _ wd327
theorem wd328 : (.methodLink "RollingBalls$Plan" 57 ⟨"RollingBalls$Plan", "areWantedSafe", "()Z"⟩ : Cond) ∈ gT := List.mem_filter.mpr ⟨List.mem_of_getElem? (i := 328) (by decide +kernel), (by decide +kernel)⟩
theorem we328 {c1 : Cond} : (.methodLink "RollingBalls$Plan" 57 ⟨"RollingBalls$Plan", "areWantedSafe", "()Z"⟩ : Cond) ∈ c1 :: gT := List.mem_cons_of_mem _ wd328
theorem wd330 : (.instanceMethod ⟨"RollingBalls$Plan", "areWantedSafe", "()Z"⟩ : Cond) ∈ gT := List.mem_filter.mpr ⟨List.mem_of_getElem? (i := 330) (by decide +kernel), (by decide +kernel)⟩
theorem we330 {c1 : Cond} : (.instanceMethod ⟨"RollingBalls$Plan", "areWantedSafe", "()Z"⟩ : Cond) ∈ c1 :: gT := List.mem_cons_of_mem _ wd330
theorem wd331 : (.code ⟨"RollingBalls$Plan", "areWantedSafe", "()Z"⟩ prog_5_method_6_code 2 (some .boolean) : Cond) ∈ gT := List.mem_filter.mpr ⟨List.mem_of_getElem? (i := 331) (by decide +kernel), (by decide +kernel)⟩
theorem we331 {c1 : Cond} : (.code ⟨"RollingBalls$Plan", "areWantedSafe", "()Z"⟩ prog_5_method_6_code 2 (some .boolean) : Cond) ∈ c1 :: gT := List.mem_cons_of_mem _ wd331
theorem wd332 : (.methodLink "RollingBalls$Plan" 91 ⟨"RollingBalls$Ball", "isSafe", "(I)Z"⟩ : Cond) ∈ gT := List.mem_filter.mpr ⟨List.mem_of_getElem? (i := 332) (by decide +kernel), (by decide +kernel)⟩
theorem we332 {c1 : Cond} : (.methodLink "RollingBalls$Plan" 91 ⟨"RollingBalls$Ball", "isSafe", "(I)Z"⟩ : Cond) ∈ c1 :: gT := List.mem_cons_of_mem _ wd332
theorem wd333 : (.instanceMethod ⟨"RollingBalls$Ball", "isSafe", "(I)Z"⟩ : Cond) ∈ gT := List.mem_filter.mpr ⟨List.mem_of_getElem? (i := 333) (by decide +kernel), (by decide +kernel)⟩
theorem we333 {c1 : Cond} : (.instanceMethod ⟨"RollingBalls$Ball", "isSafe", "(I)Z"⟩ : Cond) ∈ c1 :: gT := List.mem_cons_of_mem _ wd333
theorem wd334 : (.selects "RollingBalls$Ball" ⟨"RollingBalls$Ball", "isSafe", "(I)Z"⟩ ⟨"RollingBalls$Ball", "isSafe", "(I)Z"⟩ : Cond) ∈ gT := List.mem_filter.mpr ⟨List.mem_of_getElem? (i := 334) (by decide +kernel), (by decide +kernel)⟩
theorem we334 {c1 : Cond} : (.selects "RollingBalls$Ball" ⟨"RollingBalls$Ball", "isSafe", "(I)Z"⟩ ⟨"RollingBalls$Ball", "isSafe", "(I)Z"⟩ : Cond) ∈ c1 :: gT := List.mem_cons_of_mem _ wd334
theorem wd335 : (.code ⟨"RollingBalls$Ball", "isSafe", "(I)Z"⟩ prog_2_method_5_code 2 (some .boolean) : Cond) ∈ gT := List.mem_filter.mpr ⟨List.mem_of_getElem? (i := 335) (by decide +kernel), (by decide +kernel)⟩
theorem we335 {c1 : Cond} : (.code ⟨"RollingBalls$Ball", "isSafe", "(I)Z"⟩ prog_2_method_5_code 2 (some .boolean) : Cond) ∈ c1 :: gT := List.mem_cons_of_mem _ wd335
theorem wd336 : (.methodLink "RollingBalls$Plan" 61 ⟨"RollingBalls$Plan", "listChoices", "()V"⟩ : Cond) ∈ gT := List.mem_filter.mpr ⟨List.mem_of_getElem? (i := 336) (by decide +kernel), (by decide +kernel)⟩
theorem we336 {c1 : Cond} : (.methodLink "RollingBalls$Plan" 61 ⟨"RollingBalls$Plan", "listChoices", "()V"⟩ : Cond) ∈ c1 :: gT := List.mem_cons_of_mem _ wd336
theorem wd338 : (.instanceMethod ⟨"RollingBalls$Plan", "listChoices", "()V"⟩ : Cond) ∈ gT := List.mem_filter.mpr ⟨List.mem_of_getElem? (i := 338) (by decide +kernel), (by decide +kernel)⟩
theorem we338 {c1 : Cond} : (.instanceMethod ⟨"RollingBalls$Plan", "listChoices", "()V"⟩ : Cond) ∈ c1 :: gT := List.mem_cons_of_mem _ wd338
theorem wd339 : (.code ⟨"RollingBalls$Plan", "listChoices", "()V"⟩ prog_5_method_9_code 5 none : Cond) ∈ gT := List.mem_filter.mpr ⟨List.mem_of_getElem? (i := 339) (by decide +kernel), (by decide +kernel)⟩
theorem we339 {c1 : Cond} : (.code ⟨"RollingBalls$Plan", "listChoices", "()V"⟩ prog_5_method_9_code 5 none : Cond) ∈ c1 :: gT := List.mem_cons_of_mem _ wd339
theorem wd340 : (.fieldLink "RollingBalls$Plan" 99 "RollingBalls$Plan" "SETS_WITH" "[I" : Cond) ∈ gT := List.mem_filter.mpr ⟨List.mem_of_getElem? (i := 340) (by decide +kernel), (by decide +kernel)⟩
theorem we340 {c1 : Cond} : (.fieldLink "RollingBalls$Plan" 99 "RollingBalls$Plan" "SETS_WITH" "[I" : Cond) ∈ c1 :: gT := List.mem_cons_of_mem _ wd340
theorem wd342 : (.methodLink "RollingBalls$Plan" 102 ⟨"RollingBalls$House", "tipWith", "(II)I"⟩ : Cond) ∈ gT := List.mem_filter.mpr ⟨List.mem_of_getElem? (i := 342) (by decide +kernel), (by decide +kernel)⟩
theorem we342 {c1 : Cond} : (.methodLink "RollingBalls$Plan" 102 ⟨"RollingBalls$House", "tipWith", "(II)I"⟩ : Cond) ∈ c1 :: gT := List.mem_cons_of_mem _ wd342
theorem wd343 : (.instanceMethod ⟨"RollingBalls$House", "tipWith", "(II)I"⟩ : Cond) ∈ gT := List.mem_filter.mpr ⟨List.mem_of_getElem? (i := 343) (by decide +kernel), (by decide +kernel)⟩
theorem we343 {c1 : Cond} : (.instanceMethod ⟨"RollingBalls$House", "tipWith", "(II)I"⟩ : Cond) ∈ c1 :: gT := List.mem_cons_of_mem _ wd343
theorem wd344 : (.selects "RollingBalls$House" ⟨"RollingBalls$House", "tipWith", "(II)I"⟩ ⟨"RollingBalls$House", "tipWith", "(II)I"⟩ : Cond) ∈ gT := List.mem_filter.mpr ⟨List.mem_of_getElem? (i := 344) (by decide +kernel), (by decide +kernel)⟩
theorem we344 {c1 : Cond} : (.selects "RollingBalls$House" ⟨"RollingBalls$House", "tipWith", "(II)I"⟩ ⟨"RollingBalls$House", "tipWith", "(II)I"⟩ : Cond) ∈ c1 :: gT := List.mem_cons_of_mem _ wd344
theorem wd345 : (.code ⟨"RollingBalls$House", "tipWith", "(II)I"⟩ prog_3_method_2_code 3 (some .int) : Cond) ∈ gT := List.mem_filter.mpr ⟨List.mem_of_getElem? (i := 345) (by decide +kernel), (by decide +kernel)⟩
theorem we345 {c1 : Cond} : (.code ⟨"RollingBalls$House", "tipWith", "(II)I"⟩ prog_3_method_2_code 3 (some .int) : Cond) ∈ c1 :: gT := List.mem_cons_of_mem _ wd345
theorem wd346 : (.constant "RollingBalls$House" 40 1048576 : Cond) ∈ gT := List.mem_filter.mpr ⟨List.mem_of_getElem? (i := 346) (by decide +kernel), (by decide +kernel)⟩
theorem we346 {c1 : Cond} : (.constant "RollingBalls$House" 40 1048576 : Cond) ∈ c1 :: gT := List.mem_cons_of_mem _ wd346
theorem wd347 : (.methodLink "RollingBalls$Plan" 105 ⟨"RollingBalls$Plan", "addChoice", "(III)V"⟩ : Cond) ∈ gT := List.mem_filter.mpr ⟨List.mem_of_getElem? (i := 347) (by decide +kernel), (by decide +kernel)⟩
theorem we347 {c1 : Cond} : (.methodLink "RollingBalls$Plan" 105 ⟨"RollingBalls$Plan", "addChoice", "(III)V"⟩ : Cond) ∈ c1 :: gT := List.mem_cons_of_mem _ wd347
theorem wd349 : (.instanceMethod ⟨"RollingBalls$Plan", "addChoice", "(III)V"⟩ : Cond) ∈ gT := List.mem_filter.mpr ⟨List.mem_of_getElem? (i := 349) (by decide +kernel), (by decide +kernel)⟩
theorem we349 {c1 : Cond} : (.instanceMethod ⟨"RollingBalls$Plan", "addChoice", "(III)V"⟩ : Cond) ∈ c1 :: gT := List.mem_cons_of_mem _ wd349
theorem wd350 : (.code ⟨"RollingBalls$Plan", "addChoice", "(III)V"⟩ prog_5_method_10_code 4 none : Cond) ∈ gT := List.mem_filter.mpr ⟨List.mem_of_getElem? (i := 350) (by decide +kernel), (by decide +kernel)⟩
theorem we350 {c1 : Cond} : (.code ⟨"RollingBalls$Plan", "addChoice", "(III)V"⟩ prog_5_method_10_code 4 none : Cond) ∈ c1 :: gT := List.mem_cons_of_mem _ wd350
theorem wd351 : (.methodLink "RollingBalls$Plan" 96 ⟨"RollingBalls$Plan", "countCandidates", "(II)I"⟩ : Cond) ∈ gT := List.mem_filter.mpr ⟨List.mem_of_getElem? (i := 351) (by decide +kernel), (by decide +kernel)⟩
theorem we351 {c1 : Cond} : (.methodLink "RollingBalls$Plan" 96 ⟨"RollingBalls$Plan", "countCandidates", "(II)I"⟩ : Cond) ∈ c1 :: gT := List.mem_cons_of_mem _ wd351
theorem wd353 : (.instanceMethod ⟨"RollingBalls$Plan", "countCandidates", "(II)I"⟩ : Cond) ∈ gT := List.mem_filter.mpr ⟨List.mem_of_getElem? (i := 353) (by decide +kernel), (by decide +kernel)⟩
theorem we353 {c1 : Cond} : (.instanceMethod ⟨"RollingBalls$Plan", "countCandidates", "(II)I"⟩ : Cond) ∈ c1 :: gT := List.mem_cons_of_mem _ wd353
theorem wd354 : (.code ⟨"RollingBalls$Plan", "countCandidates", "(II)I"⟩ prog_5_method_8_code 5 (some .int) : Cond) ∈ gT := List.mem_filter.mpr ⟨List.mem_of_getElem? (i := 354) (by decide +kernel), (by decide +kernel)⟩
theorem we354 {c1 : Cond} : (.code ⟨"RollingBalls$Plan", "countCandidates", "(II)I"⟩ prog_5_method_8_code 5 (some .int) : Cond) ∈ c1 :: gT := List.mem_cons_of_mem _ wd354
theorem wd355 : (.methodLink "RollingBalls$Plan" 64 ⟨"RollingBalls$Plan", "findLowTips", "()V"⟩ : Cond) ∈ gT := List.mem_filter.mpr ⟨List.mem_of_getElem? (i := 355) (by decide +kernel), (by decide +kernel)⟩
theorem we355 {c1 : Cond} : (.methodLink "RollingBalls$Plan" 64 ⟨"RollingBalls$Plan", "findLowTips", "()V"⟩ : Cond) ∈ c1 :: gT := List.mem_cons_of_mem _ wd355
theorem wd357 : (.instanceMethod ⟨"RollingBalls$Plan", "findLowTips", "()V"⟩ : Cond) ∈ gT := List.mem_filter.mpr ⟨List.mem_of_getElem? (i := 357) (by decide +kernel), (by decide +kernel)⟩
theorem we357 {c1 : Cond} : (.instanceMethod ⟨"RollingBalls$Plan", "findLowTips", "()V"⟩ : Cond) ∈ c1 :: gT := List.mem_cons_of_mem _ wd357
theorem wd358 : (.code ⟨"RollingBalls$Plan", "findLowTips", "()V"⟩ prog_5_method_11_code 2 none : Cond) ∈ gT := List.mem_filter.mpr ⟨List.mem_of_getElem? (i := 358) (by decide +kernel), (by decide +kernel)⟩
theorem we358 {c1 : Cond} : (.code ⟨"RollingBalls$Plan", "findLowTips", "()V"⟩ prog_5_method_11_code 2 none : Cond) ∈ c1 :: gT := List.mem_cons_of_mem _ wd358
theorem wd359 : (.methodLink "RollingBalls$Plan" 109 ⟨"java/lang/System", "arraycopy", "(Ljava/lang/Object;ILjava/lang/Object;II)V"⟩ : Cond) ∈ gT := List.mem_filter.mpr ⟨List.mem_of_getElem? (i := 359) (by decide +kernel), (by decide +kernel)⟩
theorem we359 {c1 : Cond} : (.methodLink "RollingBalls$Plan" 109 ⟨"java/lang/System", "arraycopy", "(Ljava/lang/Object;ILjava/lang/Object;II)V"⟩ : Cond) ∈ c1 :: gT := List.mem_cons_of_mem _ wd359
theorem wd360 : (.static ⟨"java/lang/System", "arraycopy", "(Ljava/lang/Object;ILjava/lang/Object;II)V"⟩ : Cond) ∈ gT := List.mem_filter.mpr ⟨List.mem_of_getElem? (i := 360) (by decide +kernel), (by decide +kernel)⟩
theorem we360 {c1 : Cond} : (.static ⟨"java/lang/System", "arraycopy", "(Ljava/lang/Object;ILjava/lang/Object;II)V"⟩ : Cond) ∈ c1 :: gT := List.mem_cons_of_mem _ wd360
theorem wd361 : (.native ⟨"java/lang/System", "arraycopy", "(Ljava/lang/Object;ILjava/lang/Object;II)V"⟩ : Cond) ∈ gT := List.mem_filter.mpr ⟨List.mem_of_getElem? (i := 361) (by decide +kernel), (by decide +kernel)⟩
theorem we361 {c1 : Cond} : (.native ⟨"java/lang/System", "arraycopy", "(Ljava/lang/Object;ILjava/lang/Object;II)V"⟩ : Cond) ∈ c1 :: gT := List.mem_cons_of_mem _ wd361
theorem wd362 : (.methodLink "RollingBalls$Plan" 115 ⟨"java/lang/Math", "min", "(II)I"⟩ : Cond) ∈ gT := List.mem_filter.mpr ⟨List.mem_of_getElem? (i := 362) (by decide +kernel), (by decide +kernel)⟩
theorem we362 {c1 : Cond} : (.methodLink "RollingBalls$Plan" 115 ⟨"java/lang/Math", "min", "(II)I"⟩ : Cond) ∈ c1 :: gT := List.mem_cons_of_mem _ wd362
theorem wd363 : (.methodLink "RollingBalls$Plan" 67 ⟨"RollingBalls$Plan", "isCandidate", "(I)Z"⟩ : Cond) ∈ gT := List.mem_filter.mpr ⟨List.mem_of_getElem? (i := 363) (by decide +kernel), (by decide +kernel)⟩
theorem we363 {c1 : Cond} : (.methodLink "RollingBalls$Plan" 67 ⟨"RollingBalls$Plan", "isCandidate", "(I)Z"⟩ : Cond) ∈ c1 :: gT := List.mem_cons_of_mem _ wd363
theorem wd365 : (.instanceMethod ⟨"RollingBalls$Plan", "isCandidate", "(I)Z"⟩ : Cond) ∈ gT := List.mem_filter.mpr ⟨List.mem_of_getElem? (i := 365) (by decide +kernel), (by decide +kernel)⟩
theorem we365 {c1 : Cond} : (.instanceMethod ⟨"RollingBalls$Plan", "isCandidate", "(I)Z"⟩ : Cond) ∈ c1 :: gT := List.mem_cons_of_mem _ wd365
theorem wd366 : (.code ⟨"RollingBalls$Plan", "isCandidate", "(I)Z"⟩ prog_5_method_7_code 2 (some .boolean) : Cond) ∈ gT := List.mem_filter.mpr ⟨List.mem_of_getElem? (i := 366) (by decide +kernel), (by decide +kernel)⟩
theorem we366 {c1 : Cond} : (.code ⟨"RollingBalls$Plan", "isCandidate", "(I)Z"⟩ prog_5_method_7_code 2 (some .boolean) : Cond) ∈ c1 :: gT := List.mem_cons_of_mem _ wd366
theorem wd367 : (.methodLink "RollingBalls$Plan" 71 ⟨"RollingBalls$Plan", "setsThatSave", "(II)I"⟩ : Cond) ∈ gT := List.mem_filter.mpr ⟨List.mem_of_getElem? (i := 367) (by decide +kernel), (by decide +kernel)⟩
theorem we367 {c1 : Cond} : (.methodLink "RollingBalls$Plan" 71 ⟨"RollingBalls$Plan", "setsThatSave", "(II)I"⟩ : Cond) ∈ c1 :: gT := List.mem_cons_of_mem _ wd367
theorem wd369 : (.instanceMethod ⟨"RollingBalls$Plan", "setsThatSave", "(II)I"⟩ : Cond) ∈ gT := List.mem_filter.mpr ⟨List.mem_of_getElem? (i := 369) (by decide +kernel), (by decide +kernel)⟩
theorem we369 {c1 : Cond} : (.instanceMethod ⟨"RollingBalls$Plan", "setsThatSave", "(II)I"⟩ : Cond) ∈ c1 :: gT := List.mem_cons_of_mem _ wd369
theorem wd370 : (.code ⟨"RollingBalls$Plan", "setsThatSave", "(II)I"⟩ prog_5_method_13_code 5 (some .int) : Cond) ∈ gT := List.mem_filter.mpr ⟨List.mem_of_getElem? (i := 370) (by decide +kernel), (by decide +kernel)⟩
theorem we370 {c1 : Cond} : (.code ⟨"RollingBalls$Plan", "setsThatSave", "(II)I"⟩ prog_5_method_13_code 5 (some .int) : Cond) ∈ c1 :: gT := List.mem_cons_of_mem _ wd370
theorem wd371 : (.methodLink "RollingBalls$Plan" 160 ⟨"RollingBalls$Plan", "setsThatCover", "(III)I"⟩ : Cond) ∈ gT := List.mem_filter.mpr ⟨List.mem_of_getElem? (i := 371) (by decide +kernel), (by decide +kernel)⟩
theorem we371 {c1 : Cond} : (.methodLink "RollingBalls$Plan" 160 ⟨"RollingBalls$Plan", "setsThatCover", "(III)I"⟩ : Cond) ∈ c1 :: gT := List.mem_cons_of_mem _ wd371
theorem wd373 : (.instanceMethod ⟨"RollingBalls$Plan", "setsThatCover", "(III)I"⟩ : Cond) ∈ gT := List.mem_filter.mpr ⟨List.mem_of_getElem? (i := 373) (by decide +kernel), (by decide +kernel)⟩
theorem we373 {c1 : Cond} : (.instanceMethod ⟨"RollingBalls$Plan", "setsThatCover", "(III)I"⟩ : Cond) ∈ c1 :: gT := List.mem_cons_of_mem _ wd373
theorem wd374 : (.code ⟨"RollingBalls$Plan", "setsThatCover", "(III)I"⟩ prog_5_method_14_code 12 (some .int) : Cond) ∈ gT := List.mem_filter.mpr ⟨List.mem_of_getElem? (i := 374) (by decide +kernel), (by decide +kernel)⟩
theorem we374 {c1 : Cond} : (.code ⟨"RollingBalls$Plan", "setsThatCover", "(III)I"⟩ prog_5_method_14_code 12 (some .int) : Cond) ∈ c1 :: gT := List.mem_cons_of_mem _ wd374
theorem wd375 : (.methodLink "RollingBalls$Plan" 166 ⟨"RollingBalls$Plan", "maySink", "(I)Z"⟩ : Cond) ∈ gT := List.mem_filter.mpr ⟨List.mem_of_getElem? (i := 375) (by decide +kernel), (by decide +kernel)⟩
theorem we375 {c1 : Cond} : (.methodLink "RollingBalls$Plan" 166 ⟨"RollingBalls$Plan", "maySink", "(I)Z"⟩ : Cond) ∈ c1 :: gT := List.mem_cons_of_mem _ wd375
theorem wd377 : (.instanceMethod ⟨"RollingBalls$Plan", "maySink", "(I)Z"⟩ : Cond) ∈ gT := List.mem_filter.mpr ⟨List.mem_of_getElem? (i := 377) (by decide +kernel), (by decide +kernel)⟩
theorem we377 {c1 : Cond} : (.instanceMethod ⟨"RollingBalls$Plan", "maySink", "(I)Z"⟩ : Cond) ∈ c1 :: gT := List.mem_cons_of_mem _ wd377
theorem wd378 : (.code ⟨"RollingBalls$Plan", "maySink", "(I)Z"⟩ prog_5_method_15_code 3 (some .boolean) : Cond) ∈ gT := List.mem_filter.mpr ⟨List.mem_of_getElem? (i := 378) (by decide +kernel), (by decide +kernel)⟩
theorem we378 {c1 : Cond} : (.code ⟨"RollingBalls$Plan", "maySink", "(I)Z"⟩ prog_5_method_15_code 3 (some .boolean) : Cond) ∈ c1 :: gT := List.mem_cons_of_mem _ wd378
theorem wd379 : (.methodLink "RollingBalls$Plan" 169 ⟨"RollingBalls$Plan", "lowRest", "(II)I"⟩ : Cond) ∈ gT := List.mem_filter.mpr ⟨List.mem_of_getElem? (i := 379) (by decide +kernel), (by decide +kernel)⟩
theorem we379 {c1 : Cond} : (.methodLink "RollingBalls$Plan" 169 ⟨"RollingBalls$Plan", "lowRest", "(II)I"⟩ : Cond) ∈ c1 :: gT := List.mem_cons_of_mem _ wd379
theorem wd381 : (.instanceMethod ⟨"RollingBalls$Plan", "lowRest", "(II)I"⟩ : Cond) ∈ gT := List.mem_filter.mpr ⟨List.mem_of_getElem? (i := 381) (by decide +kernel), (by decide +kernel)⟩
theorem we381 {c1 : Cond} : (.instanceMethod ⟨"RollingBalls$Plan", "lowRest", "(II)I"⟩ : Cond) ∈ c1 :: gT := List.mem_cons_of_mem _ wd381
theorem wd382 : (.code ⟨"RollingBalls$Plan", "lowRest", "(II)I"⟩ prog_5_method_16_code 3 (some .int) : Cond) ∈ gT := List.mem_filter.mpr ⟨List.mem_of_getElem? (i := 382) (by decide +kernel), (by decide +kernel)⟩
theorem we382 {c1 : Cond} : (.code ⟨"RollingBalls$Plan", "lowRest", "(II)I"⟩ prog_5_method_16_code 3 (some .int) : Cond) ∈ c1 :: gT := List.mem_cons_of_mem _ wd382
theorem wd383 : (.methodLink "RollingBalls$Plan" 175 ⟨"RollingBalls$Ball", "climb", "([IIII)I"⟩ : Cond) ∈ gT := List.mem_filter.mpr ⟨List.mem_of_getElem? (i := 383) (by decide +kernel), (by decide +kernel)⟩
theorem we383 {c1 : Cond} : (.methodLink "RollingBalls$Plan" 175 ⟨"RollingBalls$Ball", "climb", "([IIII)I"⟩ : Cond) ∈ c1 :: gT := List.mem_cons_of_mem _ wd383
theorem wd384 : (.instanceMethod ⟨"RollingBalls$Ball", "climb", "([IIII)I"⟩ : Cond) ∈ gT := List.mem_filter.mpr ⟨List.mem_of_getElem? (i := 384) (by decide +kernel), (by decide +kernel)⟩
theorem we384 {c1 : Cond} : (.instanceMethod ⟨"RollingBalls$Ball", "climb", "([IIII)I"⟩ : Cond) ∈ c1 :: gT := List.mem_cons_of_mem _ wd384
theorem wd385 : (.selects "RollingBalls$Ball" ⟨"RollingBalls$Ball", "climb", "([IIII)I"⟩ ⟨"RollingBalls$Ball", "climb", "([IIII)I"⟩ : Cond) ∈ gT := List.mem_filter.mpr ⟨List.mem_of_getElem? (i := 385) (by decide +kernel), (by decide +kernel)⟩
theorem we385 {c1 : Cond} : (.selects "RollingBalls$Ball" ⟨"RollingBalls$Ball", "climb", "([IIII)I"⟩ ⟨"RollingBalls$Ball", "climb", "([IIII)I"⟩ : Cond) ∈ c1 :: gT := List.mem_cons_of_mem _ wd385
theorem wd386 : (.code ⟨"RollingBalls$Ball", "climb", "([IIII)I"⟩ prog_2_method_15_code 22 (some .int) : Cond) ∈ gT := List.mem_filter.mpr ⟨List.mem_of_getElem? (i := 386) (by decide +kernel), (by decide +kernel)⟩
theorem we386 {c1 : Cond} : (.code ⟨"RollingBalls$Ball", "climb", "([IIII)I"⟩ prog_2_method_15_code 22 (some .int) : Cond) ∈ c1 :: gT := List.mem_cons_of_mem _ wd386
theorem wd387 : (.methodLink "RollingBalls$Plan" 156 ⟨"RollingBalls$Plan", "setsAbove", "(III)I"⟩ : Cond) ∈ gT := List.mem_filter.mpr ⟨List.mem_of_getElem? (i := 387) (by decide +kernel), (by decide +kernel)⟩
theorem we387 {c1 : Cond} : (.methodLink "RollingBalls$Plan" 156 ⟨"RollingBalls$Plan", "setsAbove", "(III)I"⟩ : Cond) ∈ c1 :: gT := List.mem_cons_of_mem _ wd387
theorem wd389 : (.instanceMethod ⟨"RollingBalls$Plan", "setsAbove", "(III)I"⟩ : Cond) ∈ gT := List.mem_filter.mpr ⟨List.mem_of_getElem? (i := 389) (by decide +kernel), (by decide +kernel)⟩
theorem we389 {c1 : Cond} : (.instanceMethod ⟨"RollingBalls$Plan", "setsAbove", "(III)I"⟩ : Cond) ∈ c1 :: gT := List.mem_cons_of_mem _ wd389
theorem wd390 : (.code ⟨"RollingBalls$Plan", "setsAbove", "(III)I"⟩ prog_5_method_19_code 6 (some .int) : Cond) ∈ gT := List.mem_filter.mpr ⟨List.mem_of_getElem? (i := 390) (by decide +kernel), (by decide +kernel)⟩
theorem we390 {c1 : Cond} : (.code ⟨"RollingBalls$Plan", "setsAbove", "(III)I"⟩ prog_5_method_19_code 6 (some .int) : Cond) ∈ c1 :: gT := List.mem_cons_of_mem _ wd390
theorem wd391 : (.methodLink "RollingBalls$Plan" 188 ⟨"RollingBalls$Ball", "liftOver", "(III)I"⟩ : Cond) ∈ gT := List.mem_filter.mpr ⟨List.mem_of_getElem? (i := 391) (by decide +kernel), (by decide +kernel)⟩
theorem we391 {c1 : Cond} : (.methodLink "RollingBalls$Plan" 188 ⟨"RollingBalls$Ball", "liftOver", "(III)I"⟩ : Cond) ∈ c1 :: gT := List.mem_cons_of_mem _ wd391
theorem wd392 : (.instanceMethod ⟨"RollingBalls$Ball", "liftOver", "(III)I"⟩ : Cond) ∈ gT := List.mem_filter.mpr ⟨List.mem_of_getElem? (i := 392) (by decide +kernel), (by decide +kernel)⟩
theorem we392 {c1 : Cond} : (.instanceMethod ⟨"RollingBalls$Ball", "liftOver", "(III)I"⟩ : Cond) ∈ c1 :: gT := List.mem_cons_of_mem _ wd392
theorem wd393 : (.selects "RollingBalls$Ball" ⟨"RollingBalls$Ball", "liftOver", "(III)I"⟩ ⟨"RollingBalls$Ball", "liftOver", "(III)I"⟩ : Cond) ∈ gT := List.mem_filter.mpr ⟨List.mem_of_getElem? (i := 393) (by decide +kernel), (by decide +kernel)⟩
theorem we393 {c1 : Cond} : (.selects "RollingBalls$Ball" ⟨"RollingBalls$Ball", "liftOver", "(III)I"⟩ ⟨"RollingBalls$Ball", "liftOver", "(III)I"⟩ : Cond) ∈ c1 :: gT := List.mem_cons_of_mem _ wd393
theorem wd394 : (.code ⟨"RollingBalls$Ball", "liftOver", "(III)I"⟩ prog_2_method_14_code 7 (some .int) : Cond) ∈ gT := List.mem_filter.mpr ⟨List.mem_of_getElem? (i := 394) (by decide +kernel), (by decide +kernel)⟩
theorem we394 {c1 : Cond} : (.code ⟨"RollingBalls$Ball", "liftOver", "(III)I"⟩ prog_2_method_14_code 7 (some .int) : Cond) ∈ c1 :: gT := List.mem_cons_of_mem _ wd394
theorem wd395 : (.constant "RollingBalls$Ball" 142 (-1073741824) : Cond) ∈ gT := List.mem_filter.mpr ⟨List.mem_of_getElem? (i := 395) (by decide +kernel), (by decide +kernel)⟩
theorem we395 {c1 : Cond} : (.constant "RollingBalls$Ball" 142 (-1073741824) : Cond) ∈ c1 :: gT := List.mem_cons_of_mem _ wd395
theorem wd396 : (.methodLink "RollingBalls$Plan" 75 ⟨"RollingBalls$Plan", "setsThatFree", "(II)I"⟩ : Cond) ∈ gT := List.mem_filter.mpr ⟨List.mem_of_getElem? (i := 396) (by decide +kernel), (by decide +kernel)⟩
theorem we396 {c1 : Cond} : (.methodLink "RollingBalls$Plan" 75 ⟨"RollingBalls$Plan", "setsThatFree", "(II)I"⟩ : Cond) ∈ c1 :: gT := List.mem_cons_of_mem _ wd396
theorem wd398 : (.instanceMethod ⟨"RollingBalls$Plan", "setsThatFree", "(II)I"⟩ : Cond) ∈ gT := List.mem_filter.mpr ⟨List.mem_of_getElem? (i := 398) (by decide +kernel), (by decide +kernel)⟩
theorem we398 {c1 : Cond} : (.instanceMethod ⟨"RollingBalls$Plan", "setsThatFree", "(II)I"⟩ : Cond) ∈ c1 :: gT := List.mem_cons_of_mem _ wd398
theorem wd399 : (.code ⟨"RollingBalls$Plan", "setsThatFree", "(II)I"⟩ prog_5_method_12_code 10 (some .int) : Cond) ∈ gT := List.mem_filter.mpr ⟨List.mem_of_getElem? (i := 399) (by decide +kernel), (by decide +kernel)⟩
theorem we399 {c1 : Cond} : (.code ⟨"RollingBalls$Plan", "setsThatFree", "(II)I"⟩ prog_5_method_12_code 10 (some .int) : Cond) ∈ c1 :: gT := List.mem_cons_of_mem _ wd399
theorem wd400 : (.methodLink "RollingBalls$Plan" 78 ⟨"RollingBalls$Plan", "bestOf", "(I)I"⟩ : Cond) ∈ gT := List.mem_filter.mpr ⟨List.mem_of_getElem? (i := 400) (by decide +kernel), (by decide +kernel)⟩
theorem we400 {c1 : Cond} : (.methodLink "RollingBalls$Plan" 78 ⟨"RollingBalls$Plan", "bestOf", "(I)I"⟩ : Cond) ∈ c1 :: gT := List.mem_cons_of_mem _ wd400
theorem wd402 : (.instanceMethod ⟨"RollingBalls$Plan", "bestOf", "(I)I"⟩ : Cond) ∈ gT := List.mem_filter.mpr ⟨List.mem_of_getElem? (i := 402) (by decide +kernel), (by decide +kernel)⟩
theorem we402 {c1 : Cond} : (.instanceMethod ⟨"RollingBalls$Plan", "bestOf", "(I)I"⟩ : Cond) ∈ c1 :: gT := List.mem_cons_of_mem _ wd402
theorem wd403 : (.code ⟨"RollingBalls$Plan", "bestOf", "(I)I"⟩ prog_5_method_20_code 4 (some .int) : Cond) ∈ gT := List.mem_filter.mpr ⟨List.mem_of_getElem? (i := 403) (by decide +kernel), (by decide +kernel)⟩
theorem we403 {c1 : Cond} : (.code ⟨"RollingBalls$Plan", "bestOf", "(I)I"⟩ prog_5_method_20_code 4 (some .int) : Cond) ∈ c1 :: gT := List.mem_cons_of_mem _ wd403
theorem wd404 : (.methodLink "RollingBalls$Plan" 191 ⟨"RollingBalls$Plan", "holds", "(II)Z"⟩ : Cond) ∈ gT := List.mem_filter.mpr ⟨List.mem_of_getElem? (i := 404) (by decide +kernel), (by decide +kernel)⟩
theorem we404 {c1 : Cond} : (.methodLink "RollingBalls$Plan" 191 ⟨"RollingBalls$Plan", "holds", "(II)Z"⟩ : Cond) ∈ c1 :: gT := List.mem_cons_of_mem _ wd404
theorem wd405 : (.static ⟨"RollingBalls$Plan", "holds", "(II)Z"⟩ : Cond) ∈ gT := List.mem_filter.mpr ⟨List.mem_of_getElem? (i := 405) (by decide +kernel), (by decide +kernel)⟩
theorem we405 {c1 : Cond} : (.static ⟨"RollingBalls$Plan", "holds", "(II)Z"⟩ : Cond) ∈ c1 :: gT := List.mem_cons_of_mem _ wd405
theorem wd406 : (.code ⟨"RollingBalls$Plan", "holds", "(II)Z"⟩ prog_5_method_2_code 2 (some .boolean) : Cond) ∈ gT := List.mem_filter.mpr ⟨List.mem_of_getElem? (i := 406) (by decide +kernel), (by decide +kernel)⟩
theorem we406 {c1 : Cond} : (.code ⟨"RollingBalls$Plan", "holds", "(II)Z"⟩ prog_5_method_2_code 2 (some .boolean) : Cond) ∈ c1 :: gT := List.mem_cons_of_mem _ wd406
theorem wd407 : (.methodLink "RollingBalls$Plan" 195 ⟨"RollingBalls$Plan", "isBetter", "(II)Z"⟩ : Cond) ∈ gT := List.mem_filter.mpr ⟨List.mem_of_getElem? (i := 407) (by decide +kernel), (by decide +kernel)⟩
theorem we407 {c1 : Cond} : (.methodLink "RollingBalls$Plan" 195 ⟨"RollingBalls$Plan", "isBetter", "(II)Z"⟩ : Cond) ∈ c1 :: gT := List.mem_cons_of_mem _ wd407
theorem wd409 : (.instanceMethod ⟨"RollingBalls$Plan", "isBetter", "(II)Z"⟩ : Cond) ∈ gT := List.mem_filter.mpr ⟨List.mem_of_getElem? (i := 409) (by decide +kernel), (by decide +kernel)⟩
theorem we409 {c1 : Cond} : (.instanceMethod ⟨"RollingBalls$Plan", "isBetter", "(II)Z"⟩ : Cond) ∈ c1 :: gT := List.mem_cons_of_mem _ wd409
theorem wd410 : (.code ⟨"RollingBalls$Plan", "isBetter", "(II)Z"⟩ prog_5_method_22_code 5 (some .boolean) : Cond) ∈ gT := List.mem_filter.mpr ⟨List.mem_of_getElem? (i := 410) (by decide +kernel), (by decide +kernel)⟩
theorem we410 {c1 : Cond} : (.code ⟨"RollingBalls$Plan", "isBetter", "(II)Z"⟩ prog_5_method_22_code 5 (some .boolean) : Cond) ∈ c1 :: gT := List.mem_cons_of_mem _ wd410
theorem wd411 : (.methodLink "RollingBalls$Plan" 198 ⟨"java/lang/Integer", "bitCount", "(I)I"⟩ : Cond) ∈ gT := List.mem_filter.mpr ⟨List.mem_of_getElem? (i := 411) (by decide +kernel), (by decide +kernel)⟩
theorem we411 {c1 : Cond} : (.methodLink "RollingBalls$Plan" 198 ⟨"java/lang/Integer", "bitCount", "(I)I"⟩ : Cond) ∈ c1 :: gT := List.mem_cons_of_mem _ wd411
theorem wd412 : (.static ⟨"java/lang/Integer", "bitCount", "(I)I"⟩ : Cond) ∈ gT := List.mem_filter.mpr ⟨List.mem_of_getElem? (i := 412) (by decide +kernel), (by decide +kernel)⟩
theorem we412 {c1 : Cond} : (.static ⟨"java/lang/Integer", "bitCount", "(I)I"⟩ : Cond) ∈ c1 :: gT := List.mem_cons_of_mem _ wd412
theorem wd413 : (.code ⟨"java/lang/Integer", "bitCount", "(I)I"⟩ prog_12_method_49_code 1 (some .int) : Cond) ∈ gT := List.mem_filter.mpr ⟨List.mem_of_getElem? (i := 413) (by decide +kernel), (by decide +kernel)⟩
theorem we413 {c1 : Cond} : (.code ⟨"java/lang/Integer", "bitCount", "(I)I"⟩ prog_12_method_49_code 1 (some .int) : Cond) ∈ c1 :: gT := List.mem_cons_of_mem _ wd413
theorem wd414 : (.constant "java/lang/Integer" 265 1431655765 : Cond) ∈ gT := List.mem_filter.mpr ⟨List.mem_of_getElem? (i := 414) (by decide +kernel), (by decide +kernel)⟩
theorem we414 {c1 : Cond} : (.constant "java/lang/Integer" 265 1431655765 : Cond) ∈ c1 :: gT := List.mem_cons_of_mem _ wd414
theorem wd415 : (.constant "java/lang/Integer" 266 858993459 : Cond) ∈ gT := List.mem_filter.mpr ⟨List.mem_of_getElem? (i := 415) (by decide +kernel), (by decide +kernel)⟩
theorem we415 {c1 : Cond} : (.constant "java/lang/Integer" 266 858993459 : Cond) ∈ c1 :: gT := List.mem_cons_of_mem _ wd415
theorem wd416 : (.constant "java/lang/Integer" 267 252645135 : Cond) ∈ gT := List.mem_filter.mpr ⟨List.mem_of_getElem? (i := 416) (by decide +kernel), (by decide +kernel)⟩
theorem we416 {c1 : Cond} : (.constant "java/lang/Integer" 267 252645135 : Cond) ∈ c1 :: gT := List.mem_cons_of_mem _ wd416
theorem wd417 : (.methodLink "RollingBalls$Plan" 203 ⟨"RollingBalls$Plan", "lengthOf", "(I)I"⟩ : Cond) ∈ gT := List.mem_filter.mpr ⟨List.mem_of_getElem? (i := 417) (by decide +kernel), (by decide +kernel)⟩
theorem we417 {c1 : Cond} : (.methodLink "RollingBalls$Plan" 203 ⟨"RollingBalls$Plan", "lengthOf", "(I)I"⟩ : Cond) ∈ c1 :: gT := List.mem_cons_of_mem _ wd417
theorem wd419 : (.instanceMethod ⟨"RollingBalls$Plan", "lengthOf", "(I)I"⟩ : Cond) ∈ gT := List.mem_filter.mpr ⟨List.mem_of_getElem? (i := 419) (by decide +kernel), (by decide +kernel)⟩
theorem we419 {c1 : Cond} : (.instanceMethod ⟨"RollingBalls$Plan", "lengthOf", "(I)I"⟩ : Cond) ∈ c1 :: gT := List.mem_cons_of_mem _ wd419
theorem wd420 : (.code ⟨"RollingBalls$Plan", "lengthOf", "(I)I"⟩ prog_5_method_23_code 4 (some .int) : Cond) ∈ gT := List.mem_filter.mpr ⟨List.mem_of_getElem? (i := 420) (by decide +kernel), (by decide +kernel)⟩
theorem we420 {c1 : Cond} : (.code ⟨"RollingBalls$Plan", "lengthOf", "(I)I"⟩ prog_5_method_23_code 4 (some .int) : Cond) ∈ c1 :: gT := List.mem_cons_of_mem _ wd420
theorem wd421 : (.methodLink "RollingBalls$Plan" 82 ⟨"RollingBalls$Plan", "setsBetterThan", "(II)I"⟩ : Cond) ∈ gT := List.mem_filter.mpr ⟨List.mem_of_getElem? (i := 421) (by decide +kernel), (by decide +kernel)⟩
theorem we421 {c1 : Cond} : (.methodLink "RollingBalls$Plan" 82 ⟨"RollingBalls$Plan", "setsBetterThan", "(II)I"⟩ : Cond) ∈ c1 :: gT := List.mem_cons_of_mem _ wd421
theorem wd423 : (.instanceMethod ⟨"RollingBalls$Plan", "setsBetterThan", "(II)I"⟩ : Cond) ∈ gT := List.mem_filter.mpr ⟨List.mem_of_getElem? (i := 423) (by decide +kernel), (by decide +kernel)⟩
theorem we423 {c1 : Cond} : (.instanceMethod ⟨"RollingBalls$Plan", "setsBetterThan", "(II)I"⟩ : Cond) ∈ c1 :: gT := List.mem_cons_of_mem _ wd423
theorem wd424 : (.code ⟨"RollingBalls$Plan", "setsBetterThan", "(II)I"⟩ prog_5_method_21_code 5 (some .int) : Cond) ∈ gT := List.mem_filter.mpr ⟨List.mem_of_getElem? (i := 424) (by decide +kernel), (by decide +kernel)⟩
theorem we424 {c1 : Cond} : (.code ⟨"RollingBalls$Plan", "setsBetterThan", "(II)I"⟩ prog_5_method_21_code 5 (some .int) : Cond) ∈ c1 :: gT := List.mem_cons_of_mem _ wd424
theorem wd425 : (.methodLink "RollingBalls$Plan" 88 ⟨"RollingBalls$Plan", "setsThatMayLower", "(II)I"⟩ : Cond) ∈ gT := List.mem_filter.mpr ⟨List.mem_of_getElem? (i := 425) (by decide +kernel), (by decide +kernel)⟩
theorem we425 {c1 : Cond} : (.methodLink "RollingBalls$Plan" 88 ⟨"RollingBalls$Plan", "setsThatMayLower", "(II)I"⟩ : Cond) ∈ c1 :: gT := List.mem_cons_of_mem _ wd425
theorem wd427 : (.instanceMethod ⟨"RollingBalls$Plan", "setsThatMayLower", "(II)I"⟩ : Cond) ∈ gT := List.mem_filter.mpr ⟨List.mem_of_getElem? (i := 427) (by decide +kernel), (by decide +kernel)⟩
theorem we427 {c1 : Cond} : (.instanceMethod ⟨"RollingBalls$Plan", "setsThatMayLower", "(II)I"⟩ : Cond) ∈ c1 :: gT := List.mem_cons_of_mem _ wd427
theorem wd428 : (.code ⟨"RollingBalls$Plan", "setsThatMayLower", "(II)I"⟩ prog_5_method_17_code 10 (some .int) : Cond) ∈ gT := List.mem_filter.mpr ⟨List.mem_of_getElem? (i := 428) (by decide +kernel), (by decide +kernel)⟩
theorem we428 {c1 : Cond} : (.code ⟨"RollingBalls$Plan", "setsThatMayLower", "(II)I"⟩ prog_5_method_17_code 10 (some .int) : Cond) ∈ c1 :: gT := List.mem_cons_of_mem _ wd428
theorem wd429 : (.methodLink "RollingBalls$Plan" 179 ⟨"RollingBalls$Plan", "isWantedListed", "()Z"⟩ : Cond) ∈ gT := List.mem_filter.mpr ⟨List.mem_of_getElem? (i := 429) (by decide +kernel), (by decide +kernel)⟩
theorem we429 {c1 : Cond} : (.methodLink "RollingBalls$Plan" 179 ⟨"RollingBalls$Plan", "isWantedListed", "()Z"⟩ : Cond) ∈ c1 :: gT := List.mem_cons_of_mem _ wd429
theorem wd431 : (.instanceMethod ⟨"RollingBalls$Plan", "isWantedListed", "()Z"⟩ : Cond) ∈ gT := List.mem_filter.mpr ⟨List.mem_of_getElem? (i := 431) (by decide +kernel), (by decide +kernel)⟩
theorem we431 {c1 : Cond} : (.instanceMethod ⟨"RollingBalls$Plan", "isWantedListed", "()Z"⟩ : Cond) ∈ c1 :: gT := List.mem_cons_of_mem _ wd431
theorem wd432 : (.code ⟨"RollingBalls$Plan", "isWantedListed", "()Z"⟩ prog_5_method_18_code 2 (some .boolean) : Cond) ∈ gT := List.mem_filter.mpr ⟨List.mem_of_getElem? (i := 432) (by decide +kernel), (by decide +kernel)⟩
theorem we432 {c1 : Cond} : (.code ⟨"RollingBalls$Plan", "isWantedListed", "()Z"⟩ prog_5_method_18_code 2 (some .boolean) : Cond) ∈ c1 :: gT := List.mem_cons_of_mem _ wd432
theorem wd433 : (.methodLink "RollingBallsLaw" 111 ⟨"RollingBalls", "put", "(I)I"⟩ : Cond) ∈ gT := List.mem_filter.mpr ⟨List.mem_of_getElem? (i := 433) (by decide +kernel), (by decide +kernel)⟩
theorem we433 {c1 : Cond} : (.methodLink "RollingBallsLaw" 111 ⟨"RollingBalls", "put", "(I)I"⟩ : Cond) ∈ c1 :: gT := List.mem_cons_of_mem _ wd433
theorem wd434 : (.instanceMethod ⟨"RollingBalls", "put", "(I)I"⟩ : Cond) ∈ gT := List.mem_filter.mpr ⟨List.mem_of_getElem? (i := 434) (by decide +kernel), (by decide +kernel)⟩
theorem we434 {c1 : Cond} : (.instanceMethod ⟨"RollingBalls", "put", "(I)I"⟩ : Cond) ∈ c1 :: gT := List.mem_cons_of_mem _ wd434
theorem wd435 : (.selects "RollingBalls" ⟨"RollingBalls", "put", "(I)I"⟩ ⟨"RollingBalls", "put", "(I)I"⟩ : Cond) ∈ gT := List.mem_filter.mpr ⟨List.mem_of_getElem? (i := 435) (by decide +kernel), (by decide +kernel)⟩
theorem we435 {c1 : Cond} : (.selects "RollingBalls" ⟨"RollingBalls", "put", "(I)I"⟩ ⟨"RollingBalls", "put", "(I)I"⟩ : Cond) ∈ c1 :: gT := List.mem_cons_of_mem _ wd435
theorem wd436 : (.code ⟨"RollingBalls", "put", "(I)I"⟩ prog_1_method_15_code 4 (some .int) : Cond) ∈ gT := List.mem_filter.mpr ⟨List.mem_of_getElem? (i := 436) (by decide +kernel), (by decide +kernel)⟩
theorem we436 {c1 : Cond} : (.code ⟨"RollingBalls", "put", "(I)I"⟩ prog_1_method_15_code 4 (some .int) : Cond) ∈ c1 :: gT := List.mem_cons_of_mem _ wd436
theorem wd437 : (.methodLink "RollingBalls" 138 ⟨"RollingBalls$Ball", "isSafe", "(I)Z"⟩ : Cond) ∈ gT := List.mem_filter.mpr ⟨List.mem_of_getElem? (i := 437) (by decide +kernel), (by decide +kernel)⟩
theorem we437 {c1 : Cond} : (.methodLink "RollingBalls" 138 ⟨"RollingBalls$Ball", "isSafe", "(I)Z"⟩ : Cond) ∈ c1 :: gT := List.mem_cons_of_mem _ wd437
theorem wd438 : (.methodLink "RollingBalls" 165 ⟨"RollingBalls$Plan", "holds", "(II)Z"⟩ : Cond) ∈ gT := List.mem_filter.mpr ⟨List.mem_of_getElem? (i := 438) (by decide +kernel), (by decide +kernel)⟩
theorem we438 {c1 : Cond} : (.methodLink "RollingBalls" 165 ⟨"RollingBalls$Plan", "holds", "(II)Z"⟩ : Cond) ∈ c1 :: gT := List.mem_cons_of_mem _ wd438
theorem wd439 : (.methodLink "RollingBalls" 78 ⟨"RollingBalls", "putRod", "(II)V"⟩ : Cond) ∈ gT := List.mem_filter.mpr ⟨List.mem_of_getElem? (i := 439) (by decide +kernel), (by decide +kernel)⟩
theorem we439 {c1 : Cond} : (.methodLink "RollingBalls" 78 ⟨"RollingBalls", "putRod", "(II)V"⟩ : Cond) ∈ c1 :: gT := List.mem_cons_of_mem _ wd439
theorem wd441 : (.instanceMethod ⟨"RollingBalls", "putRod", "(II)V"⟩ : Cond) ∈ gT := List.mem_filter.mpr ⟨List.mem_of_getElem? (i := 441) (by decide +kernel), (by decide +kernel)⟩
theorem we441 {c1 : Cond} : (.instanceMethod ⟨"RollingBalls", "putRod", "(II)V"⟩ : Cond) ∈ c1 :: gT := List.mem_cons_of_mem _ wd441
theorem wd442 : (.code ⟨"RollingBalls", "putRod", "(II)V"⟩ prog_1_method_16_code 3 none : Cond) ∈ gT := List.mem_filter.mpr ⟨List.mem_of_getElem? (i := 442) (by decide +kernel), (by decide +kernel)⟩
theorem we442 {c1 : Cond} : (.code ⟨"RollingBalls", "putRod", "(II)V"⟩ prog_1_method_16_code 3 none : Cond) ∈ c1 :: gT := List.mem_cons_of_mem _ wd442
theorem wd443 : (.methodLink "RollingBalls" 72 ⟨"RollingBalls$House", "tipWith", "(II)I"⟩ : Cond) ∈ gT := List.mem_filter.mpr ⟨List.mem_of_getElem? (i := 443) (by decide +kernel), (by decide +kernel)⟩
theorem we443 {c1 : Cond} : (.methodLink "RollingBalls" 72 ⟨"RollingBalls$House", "tipWith", "(II)I"⟩ : Cond) ∈ c1 :: gT := List.mem_cons_of_mem _ wd443
theorem wd444 : (.methodLink "RollingBalls" 75 ⟨"RollingBalls$Ball", "moveTip", "(II)V"⟩ : Cond) ∈ gT := List.mem_filter.mpr ⟨List.mem_of_getElem? (i := 444) (by decide +kernel), (by decide +kernel)⟩
theorem we444 {c1 : Cond} : (.methodLink "RollingBalls" 75 ⟨"RollingBalls$Ball", "moveTip", "(II)V"⟩ : Cond) ∈ c1 :: gT := List.mem_cons_of_mem _ wd444
theorem wd445 : (.instanceMethod ⟨"RollingBalls$Ball", "moveTip", "(II)V"⟩ : Cond) ∈ gT := List.mem_filter.mpr ⟨List.mem_of_getElem? (i := 445) (by decide +kernel), (by decide +kernel)⟩
theorem we445 {c1 : Cond} : (.instanceMethod ⟨"RollingBalls$Ball", "moveTip", "(II)V"⟩ : Cond) ∈ c1 :: gT := List.mem_cons_of_mem _ wd445
theorem wd446 : (.selects "RollingBalls$Ball" ⟨"RollingBalls$Ball", "moveTip", "(II)V"⟩ ⟨"RollingBalls$Ball", "moveTip", "(II)V"⟩ : Cond) ∈ gT := List.mem_filter.mpr ⟨List.mem_of_getElem? (i := 446) (by decide +kernel), (by decide +kernel)⟩
theorem we446 {c1 : Cond} : (.selects "RollingBalls$Ball" ⟨"RollingBalls$Ball", "moveTip", "(II)V"⟩ ⟨"RollingBalls$Ball", "moveTip", "(II)V"⟩ : Cond) ∈ c1 :: gT := List.mem_cons_of_mem _ wd446
theorem wd447 : (.code ⟨"RollingBalls$Ball", "moveTip", "(II)V"⟩ prog_2_method_8_code 4 none : Cond) ∈ gT := List.mem_filter.mpr ⟨List.mem_of_getElem? (i := 447) (by decide +kernel), (by decide +kernel)⟩
theorem we447 {c1 : Cond} : (.code ⟨"RollingBalls$Ball", "moveTip", "(II)V"⟩ prog_2_method_8_code 4 none : Cond) ∈ c1 :: gT := List.mem_cons_of_mem _ wd447
theorem wd448 : (.methodLink "RollingBalls$Ball" 110 ⟨"RollingBalls$Ball", "raiseTip", "(II)V"⟩ : Cond) ∈ gT := List.mem_filter.mpr ⟨List.mem_of_getElem? (i := 448) (by decide +kernel), (by decide +kernel)⟩
theorem we448 {c1 : Cond} : (.methodLink "RollingBalls$Ball" 110 ⟨"RollingBalls$Ball", "raiseTip", "(II)V"⟩ : Cond) ∈ c1 :: gT := List.mem_cons_of_mem _ wd448
theorem wd450 : (.instanceMethod ⟨"RollingBalls$Ball", "raiseTip", "(II)V"⟩ : Cond) ∈ gT := List.mem_filter.mpr ⟨List.mem_of_getElem? (i := 450) (by decide +kernel), (by decide +kernel)⟩
theorem we450 {c1 : Cond} : (.instanceMethod ⟨"RollingBalls$Ball", "raiseTip", "(II)V"⟩ : Cond) ∈ c1 :: gT := List.mem_cons_of_mem _ wd450
theorem wd451 : (.code ⟨"RollingBalls$Ball", "raiseTip", "(II)V"⟩ prog_2_method_9_code 9 none : Cond) ∈ gT := List.mem_filter.mpr ⟨List.mem_of_getElem? (i := 451) (by decide +kernel), (by decide +kernel)⟩
theorem we451 {c1 : Cond} : (.code ⟨"RollingBalls$Ball", "raiseTip", "(II)V"⟩ prog_2_method_9_code 9 none : Cond) ∈ c1 :: gT := List.mem_cons_of_mem _ wd451
theorem wd452 : (.methodLink "RollingBalls$Ball" 122 ⟨"RollingBalls$Ball", "leave", "(III)V"⟩ : Cond) ∈ gT := List.mem_filter.mpr ⟨List.mem_of_getElem? (i := 452) (by decide +kernel), (by decide +kernel)⟩
theorem we452 {c1 : Cond} : (.methodLink "RollingBalls$Ball" 122 ⟨"RollingBalls$Ball", "leave", "(III)V"⟩ : Cond) ∈ c1 :: gT := List.mem_cons_of_mem _ wd452
theorem wd454 : (.instanceMethod ⟨"RollingBalls$Ball", "leave", "(III)V"⟩ : Cond) ∈ gT := List.mem_filter.mpr ⟨List.mem_of_getElem? (i := 454) (by decide +kernel), (by decide +kernel)⟩
theorem we454 {c1 : Cond} : (.instanceMethod ⟨"RollingBalls$Ball", "leave", "(III)V"⟩ : Cond) ∈ c1 :: gT := List.mem_cons_of_mem _ wd454
theorem wd455 : (.code ⟨"RollingBalls$Ball", "leave", "(III)V"⟩ prog_2_method_10_code 5 none : Cond) ∈ gT := List.mem_filter.mpr ⟨List.mem_of_getElem? (i := 455) (by decide +kernel), (by decide +kernel)⟩
theorem we455 {c1 : Cond} : (.code ⟨"RollingBalls$Ball", "leave", "(III)V"⟩ prog_2_method_10_code 5 none : Cond) ∈ c1 :: gT := List.mem_cons_of_mem _ wd455
theorem wd456 : (.methodLink "RollingBalls$Ball" 92 ⟨"RollingBalls$Ball", "climb", "([IIII)I"⟩ : Cond) ∈ gT := List.mem_filter.mpr ⟨List.mem_of_getElem? (i := 456) (by decide +kernel), (by decide +kernel)⟩
theorem we456 {c1 : Cond} : (.methodLink "RollingBalls$Ball" 92 ⟨"RollingBalls$Ball", "climb", "([IIII)I"⟩ : Cond) ∈ c1 :: gT := List.mem_cons_of_mem _ wd456
theorem wd457 : (.methodLink "RollingBalls$Ball" 129 ⟨"RollingBalls$Ball", "countListed", "(I)V"⟩ : Cond) ∈ gT := List.mem_filter.mpr ⟨List.mem_of_getElem? (i := 457) (by decide +kernel), (by decide +kernel)⟩
theorem we457 {c1 : Cond} : (.methodLink "RollingBalls$Ball" 129 ⟨"RollingBalls$Ball", "countListed", "(I)V"⟩ : Cond) ∈ c1 :: gT := List.mem_cons_of_mem _ wd457
theorem wd459 : (.instanceMethod ⟨"RollingBalls$Ball", "countListed", "(I)V"⟩ : Cond) ∈ gT := List.mem_filter.mpr ⟨List.mem_of_getElem? (i := 459) (by decide +kernel), (by decide +kernel)⟩
theorem we459 {c1 : Cond} : (.instanceMethod ⟨"RollingBalls$Ball", "countListed", "(I)V"⟩ : Cond) ∈ c1 :: gT := List.mem_cons_of_mem _ wd459
theorem wd460 : (.code ⟨"RollingBalls$Ball", "countListed", "(I)V"⟩ prog_2_method_13_code 3 none : Cond) ∈ gT := List.mem_filter.mpr ⟨List.mem_of_getElem? (i := 460) (by decide +kernel), (by decide +kernel)⟩
theorem we460 {c1 : Cond} : (.code ⟨"RollingBalls$Ball", "countListed", "(I)V"⟩ prog_2_method_13_code 3 none : Cond) ∈ c1 :: gT := List.mem_cons_of_mem _ wd460
theorem wd461 : (.methodLink "RollingBalls$Ball" 126 ⟨"RollingBalls$House", "setTip", "(II)V"⟩ : Cond) ∈ gT := List.mem_filter.mpr ⟨List.mem_of_getElem? (i := 461) (by decide +kernel), (by decide +kernel)⟩
theorem we461 {c1 : Cond} : (.methodLink "RollingBalls$Ball" 126 ⟨"RollingBalls$House", "setTip", "(II)V"⟩ : Cond) ∈ c1 :: gT := List.mem_cons_of_mem _ wd461
theorem wd462 : (.instanceMethod ⟨"RollingBalls$House", "setTip", "(II)V"⟩ : Cond) ∈ gT := List.mem_filter.mpr ⟨List.mem_of_getElem? (i := 462) (by decide +kernel), (by decide +kernel)⟩
theorem we462 {c1 : Cond} : (.instanceMethod ⟨"RollingBalls$House", "setTip", "(II)V"⟩ : Cond) ∈ c1 :: gT := List.mem_cons_of_mem _ wd462
theorem wd463 : (.selects "RollingBalls$House" ⟨"RollingBalls$House", "setTip", "(II)V"⟩ ⟨"RollingBalls$House", "setTip", "(II)V"⟩ : Cond) ∈ gT := List.mem_filter.mpr ⟨List.mem_of_getElem? (i := 463) (by decide +kernel), (by decide +kernel)⟩
theorem we463 {c1 : Cond} : (.selects "RollingBalls$House" ⟨"RollingBalls$House", "setTip", "(II)V"⟩ ⟨"RollingBalls$House", "setTip", "(II)V"⟩ : Cond) ∈ c1 :: gT := List.mem_cons_of_mem _ wd463
theorem wd464 : (.code ⟨"RollingBalls$House", "setTip", "(II)V"⟩ prog_3_method_3_code 6 none : Cond) ∈ gT := List.mem_filter.mpr ⟨List.mem_of_getElem? (i := 464) (by decide +kernel), (by decide +kernel)⟩
theorem we464 {c1 : Cond} : (.code ⟨"RollingBalls$House", "setTip", "(II)V"⟩ prog_3_method_3_code 6 none : Cond) ∈ c1 :: gT := List.mem_cons_of_mem _ wd464
theorem wd465 : (.methodLink "RollingBalls$House" 41 ⟨"java/lang/Math", "max", "(II)I"⟩ : Cond) ∈ gT := List.mem_filter.mpr ⟨List.mem_of_getElem? (i := 465) (by decide +kernel), (by decide +kernel)⟩
theorem we465 {c1 : Cond} : (.methodLink "RollingBalls$House" 41 ⟨"java/lang/Math", "max", "(II)I"⟩ : Cond) ∈ c1 :: gT := List.mem_cons_of_mem _ wd465
theorem wd466 : (.methodLink "RollingBalls$Ball" 113 ⟨"RollingBalls$Ball", "lowerTip", "(II)V"⟩ : Cond) ∈ gT := List.mem_filter.mpr ⟨List.mem_of_getElem? (i := 466) (by decide +kernel), (by decide +kernel)⟩
theorem we466 {c1 : Cond} : (.methodLink "RollingBalls$Ball" 113 ⟨"RollingBalls$Ball", "lowerTip", "(II)V"⟩ : Cond) ∈ c1 :: gT := List.mem_cons_of_mem _ wd466
theorem wd468 : (.instanceMethod ⟨"RollingBalls$Ball", "lowerTip", "(II)V"⟩ : Cond) ∈ gT := List.mem_filter.mpr ⟨List.mem_of_getElem? (i := 468) (by decide +kernel), (by decide +kernel)⟩
theorem we468 {c1 : Cond} : (.instanceMethod ⟨"RollingBalls$Ball", "lowerTip", "(II)V"⟩ : Cond) ∈ c1 :: gT := List.mem_cons_of_mem _ wd468
theorem wd469 : (.code ⟨"RollingBalls$Ball", "lowerTip", "(II)V"⟩ prog_2_method_11_code 10 none : Cond) ∈ gT := List.mem_filter.mpr ⟨List.mem_of_getElem? (i := 469) (by decide +kernel), (by decide +kernel)⟩
theorem we469 {c1 : Cond} : (.code ⟨"RollingBalls$Ball", "lowerTip", "(II)V"⟩ prog_2_method_11_code 10 none : Cond) ∈ c1 :: gT := List.mem_cons_of_mem _ wd469
theorem wd470 : (.methodLink "RollingBalls$Ball" 133 ⟨"RollingBalls$Ball", "settle", "(III)V"⟩ : Cond) ∈ gT := List.mem_filter.mpr ⟨List.mem_of_getElem? (i := 470) (by decide +kernel), (by decide +kernel)⟩
theorem we470 {c1 : Cond} : (.methodLink "RollingBalls$Ball" 133 ⟨"RollingBalls$Ball", "settle", "(III)V"⟩ : Cond) ∈ c1 :: gT := List.mem_cons_of_mem _ wd470
theorem wd472 : (.instanceMethod ⟨"RollingBalls$Ball", "settle", "(III)V"⟩ : Cond) ∈ gT := List.mem_filter.mpr ⟨List.mem_of_getElem? (i := 472) (by decide +kernel), (by decide +kernel)⟩
theorem we472 {c1 : Cond} : (.instanceMethod ⟨"RollingBalls$Ball", "settle", "(III)V"⟩ : Cond) ∈ c1 :: gT := List.mem_cons_of_mem _ wd472
theorem wd473 : (.code ⟨"RollingBalls$Ball", "settle", "(III)V"⟩ prog_2_method_12_code 4 none : Cond) ∈ gT := List.mem_filter.mpr ⟨List.mem_of_getElem? (i := 473) (by decide +kernel), (by decide +kernel)⟩
theorem we473 {c1 : Cond} : (.code ⟨"RollingBalls$Ball", "settle", "(III)V"⟩ prog_2_method_12_code 4 none : Cond) ∈ c1 :: gT := List.mem_cons_of_mem _ wd473
theorem wd474 : (.methodLink "RollingBallsLaw" 48 ⟨"RollingBallsLaw", "cell", "([II)I"⟩ : Cond) ∈ gT := List.mem_filter.mpr ⟨List.mem_of_getElem? (i := 474) (by decide +kernel), (by decide +kernel)⟩
theorem we474 {c1 : Cond} : (.methodLink "RollingBallsLaw" 48 ⟨"RollingBallsLaw", "cell", "([II)I"⟩ : Cond) ∈ c1 :: gT := List.mem_cons_of_mem _ wd474
theorem wd475 : (.static ⟨"RollingBallsLaw", "cell", "([II)I"⟩ : Cond) ∈ gT := List.mem_filter.mpr ⟨List.mem_of_getElem? (i := 475) (by decide +kernel), (by decide +kernel)⟩
theorem we475 {c1 : Cond} : (.static ⟨"RollingBallsLaw", "cell", "([II)I"⟩ : Cond) ∈ c1 :: gT := List.mem_cons_of_mem _ wd475
theorem wd476 : (.code ⟨"RollingBallsLaw", "cell", "([II)I"⟩ method_2_code 2 (some .int) : Cond) ∈ gT := List.mem_filter.mpr ⟨List.mem_of_getElem? (i := 476) (by decide +kernel), (by decide +kernel)⟩
theorem we476 {c1 : Cond} : (.code ⟨"RollingBallsLaw", "cell", "([II)I"⟩ method_2_code 2 (some .int) : Cond) ∈ c1 :: gT := List.mem_cons_of_mem _ wd476
theorem wd477 : (.methodLink "RollingBallsLaw" 60 ⟨"RollingBallsLaw", "height", "(LRollingBalls;III[J)I"⟩ : Cond) ∈ gT := List.mem_filter.mpr ⟨List.mem_of_getElem? (i := 477) (by decide +kernel), (by decide +kernel)⟩
theorem we477 {c1 : Cond} : (.methodLink "RollingBallsLaw" 60 ⟨"RollingBallsLaw", "height", "(LRollingBalls;III[J)I"⟩ : Cond) ∈ c1 :: gT := List.mem_cons_of_mem _ wd477
theorem wd478 : (.static ⟨"RollingBallsLaw", "height", "(LRollingBalls;III[J)I"⟩ : Cond) ∈ gT := List.mem_filter.mpr ⟨List.mem_of_getElem? (i := 478) (by decide +kernel), (by decide +kernel)⟩
theorem we478 {c1 : Cond} : (.static ⟨"RollingBallsLaw", "height", "(LRollingBalls;III[J)I"⟩ : Cond) ∈ c1 :: gT := List.mem_cons_of_mem _ wd478
theorem wd479 : (.codeWith ⟨"RollingBallsLaw", "height", "(LRollingBalls;III[J)I"⟩ method_3_code 6 (some .int) [(0, 12, 15, 13)] : Cond) ∈ gT := List.mem_filter.mpr ⟨List.mem_of_getElem? (i := 479) (by decide +kernel), (by decide +kernel)⟩
theorem we479 {c1 : Cond} : (.codeWith ⟨"RollingBallsLaw", "height", "(LRollingBalls;III[J)I"⟩ method_3_code 6 (some .int) [(0, 12, 15, 13)] : Cond) ∈ c1 :: gT := List.mem_cons_of_mem _ wd479
theorem wd480 : (.classLink "RollingBallsLaw" 13 "java/lang/IllegalArgumentException" : Cond) ∈ gT := List.mem_filter.mpr ⟨List.mem_of_getElem? (i := 480) (by decide +kernel), (by decide +kernel)⟩
theorem we480 {c1 : Cond} : (.classLink "RollingBallsLaw" 13 "java/lang/IllegalArgumentException" : Cond) ∈ c1 :: gT := List.mem_cons_of_mem _ wd480
theorem wd481 : (.methodLink "RollingBallsLaw" 7 ⟨"RollingBalls", "height", "(III)I"⟩ : Cond) ∈ gT := List.mem_filter.mpr ⟨List.mem_of_getElem? (i := 481) (by decide +kernel), (by decide +kernel)⟩
theorem we481 {c1 : Cond} : (.methodLink "RollingBallsLaw" 7 ⟨"RollingBalls", "height", "(III)I"⟩ : Cond) ∈ c1 :: gT := List.mem_cons_of_mem _ wd481
theorem wd482 : (.instanceMethod ⟨"RollingBalls", "height", "(III)I"⟩ : Cond) ∈ gT := List.mem_filter.mpr ⟨List.mem_of_getElem? (i := 482) (by decide +kernel), (by decide +kernel)⟩
theorem we482 {c1 : Cond} : (.instanceMethod ⟨"RollingBalls", "height", "(III)I"⟩ : Cond) ∈ c1 :: gT := List.mem_cons_of_mem _ wd482
theorem wd483 : (.selects "RollingBalls" ⟨"RollingBalls", "height", "(III)I"⟩ ⟨"RollingBalls", "height", "(III)I"⟩ : Cond) ∈ gT := List.mem_filter.mpr ⟨List.mem_of_getElem? (i := 483) (by decide +kernel), (by decide +kernel)⟩
theorem we483 {c1 : Cond} : (.selects "RollingBalls" ⟨"RollingBalls", "height", "(III)I"⟩ ⟨"RollingBalls", "height", "(III)I"⟩ : Cond) ∈ c1 :: gT := List.mem_cons_of_mem _ wd483
theorem wd484 : (.code ⟨"RollingBalls", "height", "(III)I"⟩ prog_1_method_2_code 6 (some .int) : Cond) ∈ gT := List.mem_filter.mpr ⟨List.mem_of_getElem? (i := 484) (by decide +kernel), (by decide +kernel)⟩
theorem we484 {c1 : Cond} : (.code ⟨"RollingBalls", "height", "(III)I"⟩ prog_1_method_2_code 6 (some .int) : Cond) ∈ c1 :: gT := List.mem_cons_of_mem _ wd484
theorem wd485 : (.methodLink "RollingBalls" 57 ⟨"RollingBalls", "pointAt", "(II)I"⟩ : Cond) ∈ gT := List.mem_filter.mpr ⟨List.mem_of_getElem? (i := 485) (by decide +kernel), (by decide +kernel)⟩
theorem we485 {c1 : Cond} : (.methodLink "RollingBalls" 57 ⟨"RollingBalls", "pointAt", "(II)I"⟩ : Cond) ∈ c1 :: gT := List.mem_cons_of_mem _ wd485
theorem wd487 : (.instanceMethod ⟨"RollingBalls", "pointAt", "(II)I"⟩ : Cond) ∈ gT := List.mem_filter.mpr ⟨List.mem_of_getElem? (i := 487) (by decide +kernel), (by decide +kernel)⟩
theorem we487 {c1 : Cond} : (.instanceMethod ⟨"RollingBalls", "pointAt", "(II)I"⟩ : Cond) ∈ c1 :: gT := List.mem_cons_of_mem _ wd487
theorem wd488 : (.code ⟨"RollingBalls", "pointAt", "(II)I"⟩ prog_1_method_18_code 3 (some .int) : Cond) ∈ gT := List.mem_filter.mpr ⟨List.mem_of_getElem? (i := 488) (by decide +kernel), (by decide +kernel)⟩
theorem we488 {c1 : Cond} : (.code ⟨"RollingBalls", "pointAt", "(II)I"⟩ prog_1_method_18_code 3 (some .int) : Cond) ∈ c1 :: gT := List.mem_cons_of_mem _ wd488
theorem wd489 : (.methodLink "RollingBalls" 61 ⟨"RollingBalls", "needNumber", "(III)V"⟩ : Cond) ∈ gT := List.mem_filter.mpr ⟨List.mem_of_getElem? (i := 489) (by decide +kernel), (by decide +kernel)⟩
theorem we489 {c1 : Cond} : (.methodLink "RollingBalls" 61 ⟨"RollingBalls", "needNumber", "(III)V"⟩ : Cond) ∈ c1 :: gT := List.mem_cons_of_mem _ wd489
theorem wd490 : (.static ⟨"RollingBalls", "needNumber", "(III)V"⟩ : Cond) ∈ gT := List.mem_filter.mpr ⟨List.mem_of_getElem? (i := 490) (by decide +kernel), (by decide +kernel)⟩
theorem we490 {c1 : Cond} : (.static ⟨"RollingBalls", "needNumber", "(III)V"⟩ : Cond) ∈ c1 :: gT := List.mem_cons_of_mem _ wd490
theorem wd491 : (.code ⟨"RollingBalls", "needNumber", "(III)V"⟩ prog_1_method_21_code 3 none : Cond) ∈ gT := List.mem_filter.mpr ⟨List.mem_of_getElem? (i := 491) (by decide +kernel), (by decide +kernel)⟩
theorem we491 {c1 : Cond} : (.code ⟨"RollingBalls", "needNumber", "(III)V"⟩ prog_1_method_21_code 3 none : Cond) ∈ c1 :: gT := List.mem_cons_of_mem _ wd491
theorem wd492 : (.classLink "RollingBalls" 103 "java/lang/IllegalArgumentException" : Cond) ∈ gT := List.mem_filter.mpr ⟨List.mem_of_getElem? (i := 492) (by decide +kernel), (by decide +kernel)⟩
theorem we492 {c1 : Cond} : (.classLink "RollingBalls" 103 "java/lang/IllegalArgumentException" : Cond) ∈ c1 :: gT := List.mem_cons_of_mem _ wd492
theorem wd493 : (.instantiable "java/lang/IllegalArgumentException" 6 : Cond) ∈ gT := List.mem_filter.mpr ⟨List.mem_of_getElem? (i := 493) (by decide +kernel), (by decide +kernel)⟩
theorem we493 {c1 : Cond} : (.instantiable "java/lang/IllegalArgumentException" 6 : Cond) ∈ c1 :: gT := List.mem_cons_of_mem _ wd493
theorem wd501 : (.selects "java/lang/IllegalArgumentException" ⟨"java/lang/Throwable", "fillInStackTrace", "(I)Ljava/lang/Throwable;"⟩ ⟨"java/lang/Throwable", "fillInStackTrace", "(I)Ljava/lang/Throwable;"⟩ : Cond) ∈ gT := List.mem_filter.mpr ⟨List.mem_of_getElem? (i := 501) (by decide +kernel), (by decide +kernel)⟩
theorem we501 {c1 : Cond} : (.selects "java/lang/IllegalArgumentException" ⟨"java/lang/Throwable", "fillInStackTrace", "(I)Ljava/lang/Throwable;"⟩ ⟨"java/lang/Throwable", "fillInStackTrace", "(I)Ljava/lang/Throwable;"⟩ : Cond) ∈ c1 :: gT := List.mem_cons_of_mem _ wd501
theorem wd502 : (.selects "java/lang/IllegalArgumentException" ⟨"java/lang/Throwable", "fillInStackTrace", "()Ljava/lang/Throwable;"⟩ ⟨"java/lang/Throwable", "fillInStackTrace", "()Ljava/lang/Throwable;"⟩ : Cond) ∈ gT := List.mem_filter.mpr ⟨List.mem_of_getElem? (i := 502) (by decide +kernel), (by decide +kernel)⟩
theorem we502 {c1 : Cond} : (.selects "java/lang/IllegalArgumentException" ⟨"java/lang/Throwable", "fillInStackTrace", "()Ljava/lang/Throwable;"⟩ ⟨"java/lang/Throwable", "fillInStackTrace", "()Ljava/lang/Throwable;"⟩ : Cond) ∈ c1 :: gT := List.mem_cons_of_mem _ wd502
theorem wd503 : (.lays "java/lang/IllegalArgumentException" "java/lang/Throwable" "cause" "Ljava/lang/Throwable;" : Cond) ∈ gT := List.mem_filter.mpr ⟨List.mem_of_getElem? (i := 503) (by decide +kernel), (by decide +kernel)⟩
theorem we503 {c1 : Cond} : (.lays "java/lang/IllegalArgumentException" "java/lang/Throwable" "cause" "Ljava/lang/Throwable;" : Cond) ∈ c1 :: gT := List.mem_cons_of_mem _ wd503
theorem wd504 : (.lays "java/lang/Throwable" "java/lang/Throwable" "cause" "Ljava/lang/Throwable;" : Cond) ∈ gT := List.mem_filter.mpr ⟨List.mem_of_getElem? (i := 504) (by decide +kernel), (by decide +kernel)⟩
theorem we504 {c1 : Cond} : (.lays "java/lang/Throwable" "java/lang/Throwable" "cause" "Ljava/lang/Throwable;" : Cond) ∈ c1 :: gT := List.mem_cons_of_mem _ wd504
theorem wd505 : (.lays "java/lang/IllegalArgumentException" "java/lang/Throwable" "stackTrace" "[Ljava/lang/StackTraceElement;" : Cond) ∈ gT := List.mem_filter.mpr ⟨List.mem_of_getElem? (i := 505) (by decide +kernel), (by decide +kernel)⟩
theorem we505 {c1 : Cond} : (.lays "java/lang/IllegalArgumentException" "java/lang/Throwable" "stackTrace" "[Ljava/lang/StackTraceElement;" : Cond) ∈ c1 :: gT := List.mem_cons_of_mem _ wd505
theorem wd506 : (.lays "java/lang/Throwable" "java/lang/Throwable" "stackTrace" "[Ljava/lang/StackTraceElement;" : Cond) ∈ gT := List.mem_filter.mpr ⟨List.mem_of_getElem? (i := 506) (by decide +kernel), (by decide +kernel)⟩
theorem we506 {c1 : Cond} : (.lays "java/lang/Throwable" "java/lang/Throwable" "stackTrace" "[Ljava/lang/StackTraceElement;" : Cond) ∈ c1 :: gT := List.mem_cons_of_mem _ wd506
theorem wd507 : (.lays "java/lang/IllegalArgumentException" "java/lang/Throwable" "suppressedExceptions" "Ljava/util/List;" : Cond) ∈ gT := List.mem_filter.mpr ⟨List.mem_of_getElem? (i := 507) (by decide +kernel), (by decide +kernel)⟩
theorem we507 {c1 : Cond} : (.lays "java/lang/IllegalArgumentException" "java/lang/Throwable" "suppressedExceptions" "Ljava/util/List;" : Cond) ∈ c1 :: gT := List.mem_cons_of_mem _ wd507
theorem wd508 : (.lays "java/lang/Throwable" "java/lang/Throwable" "suppressedExceptions" "Ljava/util/List;" : Cond) ∈ gT := List.mem_filter.mpr ⟨List.mem_of_getElem? (i := 508) (by decide +kernel), (by decide +kernel)⟩
theorem we508 {c1 : Cond} : (.lays "java/lang/Throwable" "java/lang/Throwable" "suppressedExceptions" "Ljava/util/List;" : Cond) ∈ c1 :: gT := List.mem_cons_of_mem _ wd508
theorem wd509 : (.lays "java/lang/IllegalArgumentException" "java/lang/Throwable" "detailMessage" "Ljava/lang/String;" : Cond) ∈ gT := List.mem_filter.mpr ⟨List.mem_of_getElem? (i := 509) (by decide +kernel), (by decide +kernel)⟩
theorem we509 {c1 : Cond} : (.lays "java/lang/IllegalArgumentException" "java/lang/Throwable" "detailMessage" "Ljava/lang/String;" : Cond) ∈ c1 :: gT := List.mem_cons_of_mem _ wd509
theorem wd510 : (.lays "java/lang/Throwable" "java/lang/Throwable" "detailMessage" "Ljava/lang/String;" : Cond) ∈ gT := List.mem_filter.mpr ⟨List.mem_of_getElem? (i := 510) (by decide +kernel), (by decide +kernel)⟩
theorem we510 {c1 : Cond} : (.lays "java/lang/Throwable" "java/lang/Throwable" "detailMessage" "Ljava/lang/String;" : Cond) ∈ c1 :: gT := List.mem_cons_of_mem _ wd510
theorem wd511 : (.lays "java/lang/IllegalArgumentException" "java/lang/Throwable" "backtrace" "Ljava/lang/Object;" : Cond) ∈ gT := List.mem_filter.mpr ⟨List.mem_of_getElem? (i := 511) (by decide +kernel), (by decide +kernel)⟩
theorem we511 {c1 : Cond} : (.lays "java/lang/IllegalArgumentException" "java/lang/Throwable" "backtrace" "Ljava/lang/Object;" : Cond) ∈ c1 :: gT := List.mem_cons_of_mem _ wd511
theorem wd512 : (.lays "java/lang/Throwable" "java/lang/Throwable" "backtrace" "Ljava/lang/Object;" : Cond) ∈ gT := List.mem_filter.mpr ⟨List.mem_of_getElem? (i := 512) (by decide +kernel), (by decide +kernel)⟩
theorem we512 {c1 : Cond} : (.lays "java/lang/Throwable" "java/lang/Throwable" "backtrace" "Ljava/lang/Object;" : Cond) ∈ c1 :: gT := List.mem_cons_of_mem _ wd512
theorem wd513 : (.fieldLink "java/lang/Throwable" 198 "java/lang/Throwable" "backtrace" "Ljava/lang/Object;" : Cond) ∈ gT := List.mem_filter.mpr ⟨List.mem_of_getElem? (i := 513) (by decide +kernel), (by decide +kernel)⟩
theorem we513 {c1 : Cond} : (.fieldLink "java/lang/Throwable" 198 "java/lang/Throwable" "backtrace" "Ljava/lang/Object;" : Cond) ∈ c1 :: gT := List.mem_cons_of_mem _ wd513
theorem wd515 : (.instanceMethod ⟨"java/lang/Throwable", "<init>", "()V"⟩ : Cond) ∈ gT := List.mem_filter.mpr ⟨List.mem_of_getElem? (i := 515) (by decide +kernel), (by decide +kernel)⟩
theorem we515 {c1 : Cond} : (.instanceMethod ⟨"java/lang/Throwable", "<init>", "()V"⟩ : Cond) ∈ c1 :: gT := List.mem_cons_of_mem _ wd515
theorem wd516 : (.code ⟨"java/lang/Throwable", "<init>", "()V"⟩ prog_17_method_1_code 1 none : Cond) ∈ gT := List.mem_filter.mpr ⟨List.mem_of_getElem? (i := 516) (by decide +kernel), (by decide +kernel)⟩
theorem we516 {c1 : Cond} : (.code ⟨"java/lang/Throwable", "<init>", "()V"⟩ prog_17_method_1_code 1 none : Cond) ∈ c1 :: gT := List.mem_cons_of_mem _ wd516
theorem wd517 : (.methodLink "java/lang/Throwable" 1 ⟨"java/lang/Object", "<init>", "()V"⟩ : Cond) ∈ gT := List.mem_filter.mpr ⟨List.mem_of_getElem? (i := 517) (by decide +kernel), (by decide +kernel)⟩
theorem we517 {c1 : Cond} : (.methodLink "java/lang/Throwable" 1 ⟨"java/lang/Object", "<init>", "()V"⟩ : Cond) ∈ c1 :: gT := List.mem_cons_of_mem _ wd517
theorem wd518 : (.fieldLink "java/lang/Throwable" 13 "java/lang/Throwable" "UNASSIGNED_STACK" "[Ljava/lang/StackTraceElement;" : Cond) ∈ gT := List.mem_filter.mpr ⟨List.mem_of_getElem? (i := 518) (by decide +kernel), (by decide +kernel)⟩
theorem we518 {c1 : Cond} : (.fieldLink "java/lang/Throwable" 13 "java/lang/Throwable" "UNASSIGNED_STACK" "[Ljava/lang/StackTraceElement;" : Cond) ∈ c1 :: gT := List.mem_cons_of_mem _ wd518
theorem wd520 : (.fieldLink "java/lang/Throwable" 20 "java/lang/Throwable" "SUPPRESSED_SENTINEL" "Ljava/util/List;" : Cond) ∈ gT := List.mem_filter.mpr ⟨List.mem_of_getElem? (i := 520) (by decide +kernel), (by decide +kernel)⟩
theorem we520 {c1 : Cond} : (.fieldLink "java/lang/Throwable" 20 "java/lang/Throwable" "SUPPRESSED_SENTINEL" "Ljava/util/List;" : Cond) ∈ c1 :: gT := List.mem_cons_of_mem _ wd520
theorem wd522 : (.methodLink "java/lang/Throwable" 27 ⟨"java/lang/Throwable", "fillInStackTrace", "()Ljava/lang/Throwable;"⟩ : Cond) ∈ gT := List.mem_filter.mpr ⟨List.mem_of_getElem? (i := 522) (by decide +kernel), (by decide +kernel)⟩
theorem we522 {c1 : Cond} : (.methodLink "java/lang/Throwable" 27 ⟨"java/lang/Throwable", "fillInStackTrace", "()Ljava/lang/Throwable;"⟩ : Cond) ∈ c1 :: gT := List.mem_cons_of_mem _ wd522
theorem wd523 : (.instanceMethod ⟨"java/lang/Throwable", "fillInStackTrace", "()Ljava/lang/Throwable;"⟩ : Cond) ∈ gT := List.mem_filter.mpr ⟨List.mem_of_getElem? (i := 523) (by decide +kernel), (by decide +kernel)⟩
theorem we523 {c1 : Cond} : (.instanceMethod ⟨"java/lang/Throwable", "fillInStackTrace", "()Ljava/lang/Throwable;"⟩ : Cond) ∈ c1 :: gT := List.mem_cons_of_mem _ wd523
theorem wd525 : (.selects "java/lang/IllegalStateException" ⟨"java/lang/Throwable", "fillInStackTrace", "()Ljava/lang/Throwable;"⟩ ⟨"java/lang/Throwable", "fillInStackTrace", "()Ljava/lang/Throwable;"⟩ : Cond) ∈ gT := List.mem_filter.mpr ⟨List.mem_of_getElem? (i := 525) (by decide +kernel), (by decide +kernel)⟩
theorem we525 {c1 : Cond} : (.selects "java/lang/IllegalStateException" ⟨"java/lang/Throwable", "fillInStackTrace", "()Ljava/lang/Throwable;"⟩ ⟨"java/lang/Throwable", "fillInStackTrace", "()Ljava/lang/Throwable;"⟩ : Cond) ∈ c1 :: gT := List.mem_cons_of_mem _ wd525
theorem wd527 : (.methodLink "java/lang/Throwable" 202 ⟨"java/lang/Throwable", "fillInStackTrace", "(I)Ljava/lang/Throwable;"⟩ : Cond) ∈ gT := List.mem_filter.mpr ⟨List.mem_of_getElem? (i := 527) (by decide +kernel), (by decide +kernel)⟩
theorem we527 {c1 : Cond} : (.methodLink "java/lang/Throwable" 202 ⟨"java/lang/Throwable", "fillInStackTrace", "(I)Ljava/lang/Throwable;"⟩ : Cond) ∈ c1 :: gT := List.mem_cons_of_mem _ wd527
theorem wd529 : (.instanceMethod ⟨"java/lang/Throwable", "fillInStackTrace", "(I)Ljava/lang/Throwable;"⟩ : Cond) ∈ gT := List.mem_filter.mpr ⟨List.mem_of_getElem? (i := 529) (by decide +kernel), (by decide +kernel)⟩
theorem we529 {c1 : Cond} : (.instanceMethod ⟨"java/lang/Throwable", "fillInStackTrace", "(I)Ljava/lang/Throwable;"⟩ : Cond) ∈ c1 :: gT := List.mem_cons_of_mem _ wd529
theorem wd530 : (.instantiable "java/lang/Throwable" 6 : Cond) ∈ gT := List.mem_filter.mpr ⟨List.mem_of_getElem? (i := 530) (by decide +kernel), (by decide +kernel)⟩
theorem we530 {c1 : Cond} : (.instantiable "java/lang/Throwable" 6 : Cond) ∈ c1 :: gT := List.mem_cons_of_mem _ wd530
theorem wd531 : (.native ⟨"java/lang/Throwable", "fillInStackTrace", "(I)Ljava/lang/Throwable;"⟩ : Cond) ∈ gT := List.mem_filter.mpr ⟨List.mem_of_getElem? (i := 531) (by decide +kernel), (by decide +kernel)⟩
theorem we531 {c1 : Cond} : (.native ⟨"java/lang/Throwable", "fillInStackTrace", "(I)Ljava/lang/Throwable;"⟩ : Cond) ∈ c1 :: gT := List.mem_cons_of_mem _ wd531
theorem wd533 : (.methodLink "RollingBalls" 107 ⟨"java/lang/IllegalArgumentException", "<init>", "(Ljava/lang/String;)V"⟩ : Cond) ∈ gT := List.mem_filter.mpr ⟨List.mem_of_getElem? (i := 533) (by decide +kernel), (by decide +kernel)⟩
theorem we533 {c1 : Cond} : (.methodLink "RollingBalls" 107 ⟨"java/lang/IllegalArgumentException", "<init>", "(Ljava/lang/String;)V"⟩ : Cond) ∈ c1 :: gT := List.mem_cons_of_mem _ wd533
theorem wd534 : (.instanceMethod ⟨"java/lang/IllegalArgumentException", "<init>", "(Ljava/lang/String;)V"⟩ : Cond) ∈ gT := List.mem_filter.mpr ⟨List.mem_of_getElem? (i := 534) (by decide +kernel), (by decide +kernel)⟩
theorem we534 {c1 : Cond} : (.instanceMethod ⟨"java/lang/IllegalArgumentException", "<init>", "(Ljava/lang/String;)V"⟩ : Cond) ∈ c1 :: gT := List.mem_cons_of_mem _ wd534
theorem wd535 : (.code ⟨"java/lang/IllegalArgumentException", "<init>", "(Ljava/lang/String;)V"⟩ prog_10_method_2_code 2 none : Cond) ∈ gT := List.mem_filter.mpr ⟨List.mem_of_getElem? (i := 535) (by decide +kernel), (by decide +kernel)⟩
theorem we535 {c1 : Cond} : (.code ⟨"java/lang/IllegalArgumentException", "<init>", "(Ljava/lang/String;)V"⟩ prog_10_method_2_code 2 none : Cond) ∈ c1 :: gT := List.mem_cons_of_mem _ wd535
theorem wd536 : (.methodLink "java/lang/IllegalArgumentException" 7 ⟨"java/lang/RuntimeException", "<init>", "(Ljava/lang/String;)V"⟩ : Cond) ∈ gT := List.mem_filter.mpr ⟨List.mem_of_getElem? (i := 536) (by decide +kernel), (by decide +kernel)⟩
theorem we536 {c1 : Cond} : (.methodLink "java/lang/IllegalArgumentException" 7 ⟨"java/lang/RuntimeException", "<init>", "(Ljava/lang/String;)V"⟩ : Cond) ∈ c1 :: gT := List.mem_cons_of_mem _ wd536
theorem wd537 : (.instanceMethod ⟨"java/lang/RuntimeException", "<init>", "(Ljava/lang/String;)V"⟩ : Cond) ∈ gT := List.mem_filter.mpr ⟨List.mem_of_getElem? (i := 537) (by decide +kernel), (by decide +kernel)⟩
theorem we537 {c1 : Cond} : (.instanceMethod ⟨"java/lang/RuntimeException", "<init>", "(Ljava/lang/String;)V"⟩ : Cond) ∈ c1 :: gT := List.mem_cons_of_mem _ wd537
theorem wd538 : (.code ⟨"java/lang/RuntimeException", "<init>", "(Ljava/lang/String;)V"⟩ prog_14_method_2_code 2 none : Cond) ∈ gT := List.mem_filter.mpr ⟨List.mem_of_getElem? (i := 538) (by decide +kernel), (by decide +kernel)⟩
theorem we538 {c1 : Cond} : (.code ⟨"java/lang/RuntimeException", "<init>", "(Ljava/lang/String;)V"⟩ prog_14_method_2_code 2 none : Cond) ∈ c1 :: gT := List.mem_cons_of_mem _ wd538
theorem wd539 : (.methodLink "java/lang/RuntimeException" 7 ⟨"java/lang/Exception", "<init>", "(Ljava/lang/String;)V"⟩ : Cond) ∈ gT := List.mem_filter.mpr ⟨List.mem_of_getElem? (i := 539) (by decide +kernel), (by decide +kernel)⟩
theorem we539 {c1 : Cond} : (.methodLink "java/lang/RuntimeException" 7 ⟨"java/lang/Exception", "<init>", "(Ljava/lang/String;)V"⟩ : Cond) ∈ c1 :: gT := List.mem_cons_of_mem _ wd539
theorem wd540 : (.instanceMethod ⟨"java/lang/Exception", "<init>", "(Ljava/lang/String;)V"⟩ : Cond) ∈ gT := List.mem_filter.mpr ⟨List.mem_of_getElem? (i := 540) (by decide +kernel), (by decide +kernel)⟩
theorem we540 {c1 : Cond} : (.instanceMethod ⟨"java/lang/Exception", "<init>", "(Ljava/lang/String;)V"⟩ : Cond) ∈ c1 :: gT := List.mem_cons_of_mem _ wd540
theorem wd541 : (.code ⟨"java/lang/Exception", "<init>", "(Ljava/lang/String;)V"⟩ prog_9_method_2_code 2 none : Cond) ∈ gT := List.mem_filter.mpr ⟨List.mem_of_getElem? (i := 541) (by decide +kernel), (by decide +kernel)⟩
theorem we541 {c1 : Cond} : (.code ⟨"java/lang/Exception", "<init>", "(Ljava/lang/String;)V"⟩ prog_9_method_2_code 2 none : Cond) ∈ c1 :: gT := List.mem_cons_of_mem _ wd541
theorem wd542 : (.methodLink "java/lang/Exception" 7 ⟨"java/lang/Throwable", "<init>", "(Ljava/lang/String;)V"⟩ : Cond) ∈ gT := List.mem_filter.mpr ⟨List.mem_of_getElem? (i := 542) (by decide +kernel), (by decide +kernel)⟩
theorem we542 {c1 : Cond} : (.methodLink "java/lang/Exception" 7 ⟨"java/lang/Throwable", "<init>", "(Ljava/lang/String;)V"⟩ : Cond) ∈ c1 :: gT := List.mem_cons_of_mem _ wd542
theorem wd543 : (.instanceMethod ⟨"java/lang/Throwable", "<init>", "(Ljava/lang/String;)V"⟩ : Cond) ∈ gT := List.mem_filter.mpr ⟨List.mem_of_getElem? (i := 543) (by decide +kernel), (by decide +kernel)⟩
theorem we543 {c1 : Cond} : (.instanceMethod ⟨"java/lang/Throwable", "<init>", "(Ljava/lang/String;)V"⟩ : Cond) ∈ c1 :: gT := List.mem_cons_of_mem _ wd543
theorem wd544 : (.code ⟨"java/lang/Throwable", "<init>", "(Ljava/lang/String;)V"⟩ prog_17_method_2_code 2 none : Cond) ∈ gT := List.mem_filter.mpr ⟨List.mem_of_getElem? (i := 544) (by decide +kernel), (by decide +kernel)⟩
theorem we544 {c1 : Cond} : (.code ⟨"java/lang/Throwable", "<init>", "(Ljava/lang/String;)V"⟩ prog_17_method_2_code 2 none : Cond) ∈ c1 :: gT := List.mem_cons_of_mem _ wd544
theorem wd546 : (.fieldLink "java/lang/Throwable" 31 "java/lang/Throwable" "detailMessage" "Ljava/lang/String;" : Cond) ∈ gT := List.mem_filter.mpr ⟨List.mem_of_getElem? (i := 546) (by decide +kernel), (by decide +kernel)⟩
theorem we546 {c1 : Cond} : (.fieldLink "java/lang/Throwable" 31 "java/lang/Throwable" "detailMessage" "Ljava/lang/String;" : Cond) ∈ c1 :: gT := List.mem_cons_of_mem _ wd546
theorem wd547 : (.fieldLink "java/lang/Throwable" 7 "java/lang/Throwable" "cause" "Ljava/lang/Throwable;" : Cond) ∈ gT := List.mem_filter.mpr ⟨List.mem_of_getElem? (i := 547) (by decide +kernel), (by decide +kernel)⟩
theorem we547 {c1 : Cond} : (.fieldLink "java/lang/Throwable" 7 "java/lang/Throwable" "cause" "Ljava/lang/Throwable;" : Cond) ∈ c1 :: gT := List.mem_cons_of_mem _ wd547
theorem wd548 : (.fieldLink "java/lang/Throwable" 17 "java/lang/Throwable" "stackTrace" "[Ljava/lang/StackTraceElement;" : Cond) ∈ gT := List.mem_filter.mpr ⟨List.mem_of_getElem? (i := 548) (by decide +kernel), (by decide +kernel)⟩
theorem we548 {c1 : Cond} : (.fieldLink "java/lang/Throwable" 17 "java/lang/Throwable" "stackTrace" "[Ljava/lang/StackTraceElement;" : Cond) ∈ c1 :: gT := List.mem_cons_of_mem _ wd548
theorem wd549 : (.fieldLink "java/lang/Throwable" 24 "java/lang/Throwable" "suppressedExceptions" "Ljava/util/List;" : Cond) ∈ gT := List.mem_filter.mpr ⟨List.mem_of_getElem? (i := 549) (by decide +kernel), (by decide +kernel)⟩
theorem we549 {c1 : Cond} : (.fieldLink "java/lang/Throwable" 24 "java/lang/Throwable" "suppressedExceptions" "Ljava/util/List;" : Cond) ∈ c1 :: gT := List.mem_cons_of_mem _ wd549
theorem wd554 : (.lays "java/lang/IllegalArgumentException" "java/lang/Throwable" "depth" "I" : Cond) ∈ gT := List.mem_filter.mpr ⟨List.mem_of_getElem? (i := 554) (by decide +kernel), (by decide +kernel)⟩
theorem we554 {c1 : Cond} : (.lays "java/lang/IllegalArgumentException" "java/lang/Throwable" "depth" "I" : Cond) ∈ c1 :: gT := List.mem_cons_of_mem _ wd554
theorem wd558 : (.arrayClass .byte : Cond) ∈ gT := List.mem_filter.mpr ⟨List.mem_of_getElem? (i := 558) (by decide +kernel), (by decide +kernel)⟩
theorem we558 {c1 : Cond} : (.arrayClass .byte : Cond) ∈ c1 :: gT := List.mem_cons_of_mem _ wd558
theorem wd559 : (.methodLink "RollingBallsLaw" 68 ⟨"RollingBallsLaw", "rod", "(LRollingBalls;III[J)I"⟩ : Cond) ∈ gT := List.mem_filter.mpr ⟨List.mem_of_getElem? (i := 559) (by decide +kernel), (by decide +kernel)⟩
theorem we559 {c1 : Cond} : (.methodLink "RollingBallsLaw" 68 ⟨"RollingBallsLaw", "rod", "(LRollingBalls;III[J)I"⟩ : Cond) ∈ c1 :: gT := List.mem_cons_of_mem _ wd559
theorem wd560 : (.static ⟨"RollingBallsLaw", "rod", "(LRollingBalls;III[J)I"⟩ : Cond) ∈ gT := List.mem_filter.mpr ⟨List.mem_of_getElem? (i := 560) (by decide +kernel), (by decide +kernel)⟩
theorem we560 {c1 : Cond} : (.static ⟨"RollingBallsLaw", "rod", "(LRollingBalls;III[J)I"⟩ : Cond) ∈ c1 :: gT := List.mem_cons_of_mem _ wd560
theorem wd561 : (.codeWith ⟨"RollingBallsLaw", "rod", "(LRollingBalls;III[J)I"⟩ method_4_code 6 (some .int) [(0, 12, 15, 13)] : Cond) ∈ gT := List.mem_filter.mpr ⟨List.mem_of_getElem? (i := 561) (by decide +kernel), (by decide +kernel)⟩
theorem we561 {c1 : Cond} : (.codeWith ⟨"RollingBallsLaw", "rod", "(LRollingBalls;III[J)I"⟩ method_4_code 6 (some .int) [(0, 12, 15, 13)] : Cond) ∈ c1 :: gT := List.mem_cons_of_mem _ wd561
theorem wd562 : (.methodLink "RollingBallsLaw" 15 ⟨"RollingBalls", "rod", "(III)I"⟩ : Cond) ∈ gT := List.mem_filter.mpr ⟨List.mem_of_getElem? (i := 562) (by decide +kernel), (by decide +kernel)⟩
theorem we562 {c1 : Cond} : (.methodLink "RollingBallsLaw" 15 ⟨"RollingBalls", "rod", "(III)I"⟩ : Cond) ∈ c1 :: gT := List.mem_cons_of_mem _ wd562
theorem wd563 : (.instanceMethod ⟨"RollingBalls", "rod", "(III)I"⟩ : Cond) ∈ gT := List.mem_filter.mpr ⟨List.mem_of_getElem? (i := 563) (by decide +kernel), (by decide +kernel)⟩
theorem we563 {c1 : Cond} : (.instanceMethod ⟨"RollingBalls", "rod", "(III)I"⟩ : Cond) ∈ c1 :: gT := List.mem_cons_of_mem _ wd563
theorem wd564 : (.selects "RollingBalls" ⟨"RollingBalls", "rod", "(III)I"⟩ ⟨"RollingBalls", "rod", "(III)I"⟩ : Cond) ∈ gT := List.mem_filter.mpr ⟨List.mem_of_getElem? (i := 564) (by decide +kernel), (by decide +kernel)⟩
theorem we564 {c1 : Cond} : (.selects "RollingBalls" ⟨"RollingBalls", "rod", "(III)I"⟩ ⟨"RollingBalls", "rod", "(III)I"⟩ : Cond) ∈ c1 :: gT := List.mem_cons_of_mem _ wd564
theorem wd565 : (.code ⟨"RollingBalls", "rod", "(III)I"⟩ prog_1_method_3_code 6 (some .int) : Cond) ∈ gT := List.mem_filter.mpr ⟨List.mem_of_getElem? (i := 565) (by decide +kernel), (by decide +kernel)⟩
theorem we565 {c1 : Cond} : (.code ⟨"RollingBalls", "rod", "(III)I"⟩ prog_1_method_3_code 6 (some .int) : Cond) ∈ c1 :: gT := List.mem_cons_of_mem _ wd565
theorem wd566 : (.methodLink "RollingBallsLaw" 71 ⟨"RollingBallsLaw", "rest", "(LRollingBalls;III[J)I"⟩ : Cond) ∈ gT := List.mem_filter.mpr ⟨List.mem_of_getElem? (i := 566) (by decide +kernel), (by decide +kernel)⟩
theorem we566 {c1 : Cond} : (.methodLink "RollingBallsLaw" 71 ⟨"RollingBallsLaw", "rest", "(LRollingBalls;III[J)I"⟩ : Cond) ∈ c1 :: gT := List.mem_cons_of_mem _ wd566
theorem wd567 : (.static ⟨"RollingBallsLaw", "rest", "(LRollingBalls;III[J)I"⟩ : Cond) ∈ gT := List.mem_filter.mpr ⟨List.mem_of_getElem? (i := 567) (by decide +kernel), (by decide +kernel)⟩
theorem we567 {c1 : Cond} : (.static ⟨"RollingBallsLaw", "rest", "(LRollingBalls;III[J)I"⟩ : Cond) ∈ c1 :: gT := List.mem_cons_of_mem _ wd567
theorem wd568 : (.codeWith ⟨"RollingBallsLaw", "rest", "(LRollingBalls;III[J)I"⟩ method_5_code 6 (some .int) [(0, 12, 15, 13)] : Cond) ∈ gT := List.mem_filter.mpr ⟨List.mem_of_getElem? (i := 568) (by decide +kernel), (by decide +kernel)⟩
theorem we568 {c1 : Cond} : (.codeWith ⟨"RollingBallsLaw", "rest", "(LRollingBalls;III[J)I"⟩ method_5_code 6 (some .int) [(0, 12, 15, 13)] : Cond) ∈ c1 :: gT := List.mem_cons_of_mem _ wd568
theorem wd569 : (.methodLink "RollingBallsLaw" 18 ⟨"RollingBalls", "rest", "(III)I"⟩ : Cond) ∈ gT := List.mem_filter.mpr ⟨List.mem_of_getElem? (i := 569) (by decide +kernel), (by decide +kernel)⟩
theorem we569 {c1 : Cond} : (.methodLink "RollingBallsLaw" 18 ⟨"RollingBalls", "rest", "(III)I"⟩ : Cond) ∈ c1 :: gT := List.mem_cons_of_mem _ wd569
theorem wd570 : (.instanceMethod ⟨"RollingBalls", "rest", "(III)I"⟩ : Cond) ∈ gT := List.mem_filter.mpr ⟨List.mem_of_getElem? (i := 570) (by decide +kernel), (by decide +kernel)⟩
theorem we570 {c1 : Cond} : (.instanceMethod ⟨"RollingBalls", "rest", "(III)I"⟩ : Cond) ∈ c1 :: gT := List.mem_cons_of_mem _ wd570
theorem wd571 : (.selects "RollingBalls" ⟨"RollingBalls", "rest", "(III)I"⟩ ⟨"RollingBalls", "rest", "(III)I"⟩ : Cond) ∈ gT := List.mem_filter.mpr ⟨List.mem_of_getElem? (i := 571) (by decide +kernel), (by decide +kernel)⟩
theorem we571 {c1 : Cond} : (.selects "RollingBalls" ⟨"RollingBalls", "rest", "(III)I"⟩ ⟨"RollingBalls", "rest", "(III)I"⟩ : Cond) ∈ c1 :: gT := List.mem_cons_of_mem _ wd571
theorem wd572 : (.code ⟨"RollingBalls", "rest", "(III)I"⟩ prog_1_method_4_code 5 (some .int) : Cond) ∈ gT := List.mem_filter.mpr ⟨List.mem_of_getElem? (i := 572) (by decide +kernel), (by decide +kernel)⟩
theorem we572 {c1 : Cond} : (.code ⟨"RollingBalls", "rest", "(III)I"⟩ prog_1_method_4_code 5 (some .int) : Cond) ∈ c1 :: gT := List.mem_cons_of_mem _ wd572
theorem wd573 : (.methodLink "RollingBalls" 81 ⟨"RollingBalls", "needPlace", "(II)V"⟩ : Cond) ∈ gT := List.mem_filter.mpr ⟨List.mem_of_getElem? (i := 573) (by decide +kernel), (by decide +kernel)⟩
theorem we573 {c1 : Cond} : (.methodLink "RollingBalls" 81 ⟨"RollingBalls", "needPlace", "(II)V"⟩ : Cond) ∈ c1 :: gT := List.mem_cons_of_mem _ wd573
theorem wd575 : (.instanceMethod ⟨"RollingBalls", "needPlace", "(II)V"⟩ : Cond) ∈ gT := List.mem_filter.mpr ⟨List.mem_of_getElem? (i := 575) (by decide +kernel), (by decide +kernel)⟩
theorem we575 {c1 : Cond} : (.instanceMethod ⟨"RollingBalls", "needPlace", "(II)V"⟩ : Cond) ∈ c1 :: gT := List.mem_cons_of_mem _ wd575
theorem wd576 : (.code ⟨"RollingBalls", "needPlace", "(II)V"⟩ prog_1_method_19_code 3 none : Cond) ∈ gT := List.mem_filter.mpr ⟨List.mem_of_getElem? (i := 576) (by decide +kernel), (by decide +kernel)⟩
theorem we576 {c1 : Cond} : (.code ⟨"RollingBalls", "needPlace", "(II)V"⟩ prog_1_method_19_code 3 none : Cond) ∈ c1 :: gT := List.mem_cons_of_mem _ wd576
theorem wd577 : (.methodLink "RollingBalls" 84 ⟨"RollingBalls$Ball", "restAt", "(II)I"⟩ : Cond) ∈ gT := List.mem_filter.mpr ⟨List.mem_of_getElem? (i := 577) (by decide +kernel), (by decide +kernel)⟩
theorem we577 {c1 : Cond} : (.methodLink "RollingBalls" 84 ⟨"RollingBalls$Ball", "restAt", "(II)I"⟩ : Cond) ∈ c1 :: gT := List.mem_cons_of_mem _ wd577
theorem wd578 : (.instanceMethod ⟨"RollingBalls$Ball", "restAt", "(II)I"⟩ : Cond) ∈ gT := List.mem_filter.mpr ⟨List.mem_of_getElem? (i := 578) (by decide +kernel), (by decide +kernel)⟩
theorem we578 {c1 : Cond} : (.instanceMethod ⟨"RollingBalls$Ball", "restAt", "(II)I"⟩ : Cond) ∈ c1 :: gT := List.mem_cons_of_mem _ wd578
theorem wd579 : (.selects "RollingBalls$Ball" ⟨"RollingBalls$Ball", "restAt", "(II)I"⟩ ⟨"RollingBalls$Ball", "restAt", "(II)I"⟩ : Cond) ∈ gT := List.mem_filter.mpr ⟨List.mem_of_getElem? (i := 579) (by decide +kernel), (by decide +kernel)⟩
theorem we579 {c1 : Cond} : (.selects "RollingBalls$Ball" ⟨"RollingBalls$Ball", "restAt", "(II)I"⟩ ⟨"RollingBalls$Ball", "restAt", "(II)I"⟩ : Cond) ∈ c1 :: gT := List.mem_cons_of_mem _ wd579
theorem wd580 : (.code ⟨"RollingBalls$Ball", "restAt", "(II)I"⟩ prog_2_method_2_code 3 (some .int) : Cond) ∈ gT := List.mem_filter.mpr ⟨List.mem_of_getElem? (i := 580) (by decide +kernel), (by decide +kernel)⟩
theorem we580 {c1 : Cond} : (.code ⟨"RollingBalls$Ball", "restAt", "(II)I"⟩ prog_2_method_2_code 3 (some .int) : Cond) ∈ c1 :: gT := List.mem_cons_of_mem _ wd580
theorem wd581 : (.methodLink "RollingBalls" 87 ⟨"RollingBalls$Level", "floor", "(I)I"⟩ : Cond) ∈ gT := List.mem_filter.mpr ⟨List.mem_of_getElem? (i := 581) (by decide +kernel), (by decide +kernel)⟩
theorem we581 {c1 : Cond} : (.methodLink "RollingBalls" 87 ⟨"RollingBalls$Level", "floor", "(I)I"⟩ : Cond) ∈ c1 :: gT := List.mem_cons_of_mem _ wd581
theorem wd582 : (.static ⟨"RollingBalls$Level", "floor", "(I)I"⟩ : Cond) ∈ gT := List.mem_filter.mpr ⟨List.mem_of_getElem? (i := 582) (by decide +kernel), (by decide +kernel)⟩
theorem we582 {c1 : Cond} : (.static ⟨"RollingBalls$Level", "floor", "(I)I"⟩ : Cond) ∈ c1 :: gT := List.mem_cons_of_mem _ wd582
theorem wd583 : (.code ⟨"RollingBalls$Level", "floor", "(I)I"⟩ prog_4_method_2_code 1 (some .int) : Cond) ∈ gT := List.mem_filter.mpr ⟨List.mem_of_getElem? (i := 583) (by decide +kernel), (by decide +kernel)⟩
theorem we583 {c1 : Cond} : (.code ⟨"RollingBalls$Level", "floor", "(I)I"⟩ prog_4_method_2_code 1 (some .int) : Cond) ∈ c1 :: gT := List.mem_cons_of_mem _ wd583
theorem wd584 : (.methodLink "RollingBalls" 93 ⟨"RollingBalls$Level", "isWhole", "(I)Z"⟩ : Cond) ∈ gT := List.mem_filter.mpr ⟨List.mem_of_getElem? (i := 584) (by decide +kernel), (by decide +kernel)⟩
theorem we584 {c1 : Cond} : (.methodLink "RollingBalls" 93 ⟨"RollingBalls$Level", "isWhole", "(I)Z"⟩ : Cond) ∈ c1 :: gT := List.mem_cons_of_mem _ wd584
theorem wd585 : (.static ⟨"RollingBalls$Level", "isWhole", "(I)Z"⟩ : Cond) ∈ gT := List.mem_filter.mpr ⟨List.mem_of_getElem? (i := 585) (by decide +kernel), (by decide +kernel)⟩
theorem we585 {c1 : Cond} : (.static ⟨"RollingBalls$Level", "isWhole", "(I)Z"⟩ : Cond) ∈ c1 :: gT := List.mem_cons_of_mem _ wd585
theorem wd586 : (.code ⟨"RollingBalls$Level", "isWhole", "(I)Z"⟩ prog_4_method_3_code 1 (some .boolean) : Cond) ∈ gT := List.mem_filter.mpr ⟨List.mem_of_getElem? (i := 586) (by decide +kernel), (by decide +kernel)⟩
theorem we586 {c1 : Cond} : (.code ⟨"RollingBalls$Level", "isWhole", "(I)Z"⟩ prog_4_method_3_code 1 (some .boolean) : Cond) ∈ c1 :: gT := List.mem_cons_of_mem _ wd586
theorem wd587 : (.methodLink "RollingBalls$Level" 9 ⟨"RollingBalls$Level", "floor", "(I)I"⟩ : Cond) ∈ gT := List.mem_filter.mpr ⟨List.mem_of_getElem? (i := 587) (by decide +kernel), (by decide +kernel)⟩
theorem we587 {c1 : Cond} : (.methodLink "RollingBalls$Level" 9 ⟨"RollingBalls$Level", "floor", "(I)I"⟩ : Cond) ∈ c1 :: gT := List.mem_cons_of_mem _ wd587
theorem wd588 : (.constant "RollingBalls$Level" 13 1048576 : Cond) ∈ gT := List.mem_filter.mpr ⟨List.mem_of_getElem? (i := 588) (by decide +kernel), (by decide +kernel)⟩
theorem we588 {c1 : Cond} : (.constant "RollingBalls$Level" 13 1048576 : Cond) ∈ c1 :: gT := List.mem_cons_of_mem _ wd588
theorem wd589 : (.methodLink "RollingBalls" 97 ⟨"RollingBalls$Ball", "countTouched", "(II)I"⟩ : Cond) ∈ gT := List.mem_filter.mpr ⟨List.mem_of_getElem? (i := 589) (by decide +kernel), (by decide +kernel)⟩
theorem we589 {c1 : Cond} : (.methodLink "RollingBalls" 97 ⟨"RollingBalls$Ball", "countTouched", "(II)I"⟩ : Cond) ∈ c1 :: gT := List.mem_cons_of_mem _ wd589
theorem wd590 : (.instanceMethod ⟨"RollingBalls$Ball", "countTouched", "(II)I"⟩ : Cond) ∈ gT := List.mem_filter.mpr ⟨List.mem_of_getElem? (i := 590) (by decide +kernel), (by decide +kernel)⟩
theorem we590 {c1 : Cond} : (.instanceMethod ⟨"RollingBalls$Ball", "countTouched", "(II)I"⟩ : Cond) ∈ c1 :: gT := List.mem_cons_of_mem _ wd590
theorem wd591 : (.selects "RollingBalls$Ball" ⟨"RollingBalls$Ball", "countTouched", "(II)I"⟩ ⟨"RollingBalls$Ball", "countTouched", "(II)I"⟩ : Cond) ∈ gT := List.mem_filter.mpr ⟨List.mem_of_getElem? (i := 591) (by decide +kernel), (by decide +kernel)⟩
theorem we591 {c1 : Cond} : (.selects "RollingBalls$Ball" ⟨"RollingBalls$Ball", "countTouched", "(II)I"⟩ ⟨"RollingBalls$Ball", "countTouched", "(II)I"⟩ : Cond) ∈ c1 :: gT := List.mem_cons_of_mem _ wd591
theorem wd592 : (.code ⟨"RollingBalls$Ball", "countTouched", "(II)I"⟩ prog_2_method_3_code 3 (some .int) : Cond) ∈ gT := List.mem_filter.mpr ⟨List.mem_of_getElem? (i := 592) (by decide +kernel), (by decide +kernel)⟩
theorem we592 {c1 : Cond} : (.code ⟨"RollingBalls$Ball", "countTouched", "(II)I"⟩ prog_2_method_3_code 3 (some .int) : Cond) ∈ c1 :: gT := List.mem_cons_of_mem _ wd592
theorem wd594 : (.methodLink "RollingBallsLaw" 74 ⟨"RollingBallsLaw", "touched", "(LRollingBalls;III[J)I"⟩ : Cond) ∈ gT := List.mem_filter.mpr ⟨List.mem_of_getElem? (i := 594) (by decide +kernel), (by decide +kernel)⟩
theorem we594 {c1 : Cond} : (.methodLink "RollingBallsLaw" 74 ⟨"RollingBallsLaw", "touched", "(LRollingBalls;III[J)I"⟩ : Cond) ∈ c1 :: gT := List.mem_cons_of_mem _ wd594
theorem wd595 : (.static ⟨"RollingBallsLaw", "touched", "(LRollingBalls;III[J)I"⟩ : Cond) ∈ gT := List.mem_filter.mpr ⟨List.mem_of_getElem? (i := 595) (by decide +kernel), (by decide +kernel)⟩
theorem we595 {c1 : Cond} : (.static ⟨"RollingBallsLaw", "touched", "(LRollingBalls;III[J)I"⟩ : Cond) ∈ c1 :: gT := List.mem_cons_of_mem _ wd595
theorem wd596 : (.codeWith ⟨"RollingBallsLaw", "touched", "(LRollingBalls;III[J)I"⟩ method_6_code 6 (some .int) [(0, 12, 15, 13)] : Cond) ∈ gT := List.mem_filter.mpr ⟨List.mem_of_getElem? (i := 596) (by decide +kernel), (by decide +kernel)⟩
theorem we596 {c1 : Cond} : (.codeWith ⟨"RollingBallsLaw", "touched", "(LRollingBalls;III[J)I"⟩ method_6_code 6 (some .int) [(0, 12, 15, 13)] : Cond) ∈ c1 :: gT := List.mem_cons_of_mem _ wd596
theorem wd597 : (.methodLink "RollingBallsLaw" 21 ⟨"RollingBalls", "touched", "(III)I"⟩ : Cond) ∈ gT := List.mem_filter.mpr ⟨List.mem_of_getElem? (i := 597) (by decide +kernel), (by decide +kernel)⟩
theorem we597 {c1 : Cond} : (.methodLink "RollingBallsLaw" 21 ⟨"RollingBalls", "touched", "(III)I"⟩ : Cond) ∈ c1 :: gT := List.mem_cons_of_mem _ wd597
theorem wd598 : (.instanceMethod ⟨"RollingBalls", "touched", "(III)I"⟩ : Cond) ∈ gT := List.mem_filter.mpr ⟨List.mem_of_getElem? (i := 598) (by decide +kernel), (by decide +kernel)⟩
theorem we598 {c1 : Cond} : (.instanceMethod ⟨"RollingBalls", "touched", "(III)I"⟩ : Cond) ∈ c1 :: gT := List.mem_cons_of_mem _ wd598
theorem wd599 : (.selects "RollingBalls" ⟨"RollingBalls", "touched", "(III)I"⟩ ⟨"RollingBalls", "touched", "(III)I"⟩ : Cond) ∈ gT := List.mem_filter.mpr ⟨List.mem_of_getElem? (i := 599) (by decide +kernel), (by decide +kernel)⟩
theorem we599 {c1 : Cond} : (.selects "RollingBalls" ⟨"RollingBalls", "touched", "(III)I"⟩ ⟨"RollingBalls", "touched", "(III)I"⟩ : Cond) ∈ c1 :: gT := List.mem_cons_of_mem _ wd599
theorem wd600 : (.code ⟨"RollingBalls", "touched", "(III)I"⟩ prog_1_method_5_code 4 (some .int) : Cond) ∈ gT := List.mem_filter.mpr ⟨List.mem_of_getElem? (i := 600) (by decide +kernel), (by decide +kernel)⟩
theorem we600 {c1 : Cond} : (.code ⟨"RollingBalls", "touched", "(III)I"⟩ prog_1_method_5_code 4 (some .int) : Cond) ∈ c1 :: gT := List.mem_cons_of_mem _ wd600
theorem wd601 : (.methodLink "RollingBalls" 110 ⟨"RollingBalls", "needIndex", "(I)V"⟩ : Cond) ∈ gT := List.mem_filter.mpr ⟨List.mem_of_getElem? (i := 601) (by decide +kernel), (by decide +kernel)⟩
theorem we601 {c1 : Cond} : (.methodLink "RollingBalls" 110 ⟨"RollingBalls", "needIndex", "(I)V"⟩ : Cond) ∈ c1 :: gT := List.mem_cons_of_mem _ wd601
theorem wd602 : (.static ⟨"RollingBalls", "needIndex", "(I)V"⟩ : Cond) ∈ gT := List.mem_filter.mpr ⟨List.mem_of_getElem? (i := 602) (by decide +kernel), (by decide +kernel)⟩
theorem we602 {c1 : Cond} : (.static ⟨"RollingBalls", "needIndex", "(I)V"⟩ : Cond) ∈ c1 :: gT := List.mem_cons_of_mem _ wd602
theorem wd603 : (.code ⟨"RollingBalls", "needIndex", "(I)V"⟩ prog_1_method_20_code 1 none : Cond) ∈ gT := List.mem_filter.mpr ⟨List.mem_of_getElem? (i := 603) (by decide +kernel), (by decide +kernel)⟩
theorem we603 {c1 : Cond} : (.code ⟨"RollingBalls", "needIndex", "(I)V"⟩ prog_1_method_20_code 1 none : Cond) ∈ c1 :: gT := List.mem_cons_of_mem _ wd603
theorem wd605 : (.methodLink "RollingBalls" 114 ⟨"RollingBalls$Ball", "listTouched", "(II)V"⟩ : Cond) ∈ gT := List.mem_filter.mpr ⟨List.mem_of_getElem? (i := 605) (by decide +kernel), (by decide +kernel)⟩
theorem we605 {c1 : Cond} : (.methodLink "RollingBalls" 114 ⟨"RollingBalls$Ball", "listTouched", "(II)V"⟩ : Cond) ∈ c1 :: gT := List.mem_cons_of_mem _ wd605
theorem wd606 : (.instanceMethod ⟨"RollingBalls$Ball", "listTouched", "(II)V"⟩ : Cond) ∈ gT := List.mem_filter.mpr ⟨List.mem_of_getElem? (i := 606) (by decide +kernel), (by decide +kernel)⟩
theorem we606 {c1 : Cond} : (.instanceMethod ⟨"RollingBalls$Ball", "listTouched", "(II)V"⟩ : Cond) ∈ c1 :: gT := List.mem_cons_of_mem _ wd606
theorem wd607 : (.selects "RollingBalls$Ball" ⟨"RollingBalls$Ball", "listTouched", "(II)V"⟩ ⟨"RollingBalls$Ball", "listTouched", "(II)V"⟩ : Cond) ∈ gT := List.mem_filter.mpr ⟨List.mem_of_getElem? (i := 607) (by decide +kernel), (by decide +kernel)⟩
theorem we607 {c1 : Cond} : (.selects "RollingBalls$Ball" ⟨"RollingBalls$Ball", "listTouched", "(II)V"⟩ ⟨"RollingBalls$Ball", "listTouched", "(II)V"⟩ : Cond) ∈ c1 :: gT := List.mem_cons_of_mem _ wd607
theorem wd608 : (.code ⟨"RollingBalls$Ball", "listTouched", "(II)V"⟩ prog_2_method_4_code 3 none : Cond) ∈ gT := List.mem_filter.mpr ⟨List.mem_of_getElem? (i := 608) (by decide +kernel), (by decide +kernel)⟩
theorem we608 {c1 : Cond} : (.code ⟨"RollingBalls$Ball", "listTouched", "(II)V"⟩ prog_2_method_4_code 3 none : Cond) ∈ c1 :: gT := List.mem_cons_of_mem _ wd608
theorem wd609 : (.methodLink "RollingBalls$Ball" 89 ⟨"RollingBalls$Ball", "restAt", "(II)I"⟩ : Cond) ∈ gT := List.mem_filter.mpr ⟨List.mem_of_getElem? (i := 609) (by decide +kernel), (by decide +kernel)⟩
theorem we609 {c1 : Cond} : (.methodLink "RollingBalls$Ball" 89 ⟨"RollingBalls$Ball", "restAt", "(II)I"⟩ : Cond) ∈ c1 :: gT := List.mem_cons_of_mem _ wd609
theorem wd610 : (.methodLink "RollingBalls" 123 ⟨"RollingBalls", "numberOf", "(I)I"⟩ : Cond) ∈ gT := List.mem_filter.mpr ⟨List.mem_of_getElem? (i := 610) (by decide +kernel), (by decide +kernel)⟩
theorem we610 {c1 : Cond} : (.methodLink "RollingBalls" 123 ⟨"RollingBalls", "numberOf", "(I)I"⟩ : Cond) ∈ c1 :: gT := List.mem_cons_of_mem _ wd610
theorem wd612 : (.instanceMethod ⟨"RollingBalls", "numberOf", "(I)I"⟩ : Cond) ∈ gT := List.mem_filter.mpr ⟨List.mem_of_getElem? (i := 612) (by decide +kernel), (by decide +kernel)⟩
theorem we612 {c1 : Cond} : (.instanceMethod ⟨"RollingBalls", "numberOf", "(I)I"⟩ : Cond) ∈ c1 :: gT := List.mem_cons_of_mem _ wd612
theorem wd613 : (.code ⟨"RollingBalls", "numberOf", "(I)I"⟩ prog_1_method_17_code 2 (some .int) : Cond) ∈ gT := List.mem_filter.mpr ⟨List.mem_of_getElem? (i := 613) (by decide +kernel), (by decide +kernel)⟩
theorem we613 {c1 : Cond} : (.code ⟨"RollingBalls", "numberOf", "(I)I"⟩ prog_1_method_17_code 2 (some .int) : Cond) ∈ c1 :: gT := List.mem_cons_of_mem _ wd613
theorem wd614 : (.methodLink "RollingBallsLaw" 77 ⟨"RollingBallsLaw", "higher", "(LRollingBalls;IIII[J)I"⟩ : Cond) ∈ gT := List.mem_filter.mpr ⟨List.mem_of_getElem? (i := 614) (by decide +kernel), (by decide +kernel)⟩
theorem we614 {c1 : Cond} : (.methodLink "RollingBallsLaw" 77 ⟨"RollingBallsLaw", "higher", "(LRollingBalls;IIII[J)I"⟩ : Cond) ∈ c1 :: gT := List.mem_cons_of_mem _ wd614
theorem wd615 : (.static ⟨"RollingBallsLaw", "higher", "(LRollingBalls;IIII[J)I"⟩ : Cond) ∈ gT := List.mem_filter.mpr ⟨List.mem_of_getElem? (i := 615) (by decide +kernel), (by decide +kernel)⟩
theorem we615 {c1 : Cond} : (.static ⟨"RollingBallsLaw", "higher", "(LRollingBalls;IIII[J)I"⟩ : Cond) ∈ c1 :: gT := List.mem_cons_of_mem _ wd615
theorem wd616 : (.codeWith ⟨"RollingBallsLaw", "higher", "(LRollingBalls;IIII[J)I"⟩ method_7_code 7 (some .int) [(0, 14, 17, 13)] : Cond) ∈ gT := List.mem_filter.mpr ⟨List.mem_of_getElem? (i := 616) (by decide +kernel), (by decide +kernel)⟩
theorem we616 {c1 : Cond} : (.codeWith ⟨"RollingBallsLaw", "higher", "(LRollingBalls;IIII[J)I"⟩ method_7_code 7 (some .int) [(0, 14, 17, 13)] : Cond) ∈ c1 :: gT := List.mem_cons_of_mem _ wd616
theorem wd617 : (.methodLink "RollingBallsLaw" 24 ⟨"RollingBalls", "higher", "(IIII)I"⟩ : Cond) ∈ gT := List.mem_filter.mpr ⟨List.mem_of_getElem? (i := 617) (by decide +kernel), (by decide +kernel)⟩
theorem we617 {c1 : Cond} : (.methodLink "RollingBallsLaw" 24 ⟨"RollingBalls", "higher", "(IIII)I"⟩ : Cond) ∈ c1 :: gT := List.mem_cons_of_mem _ wd617
theorem wd618 : (.instanceMethod ⟨"RollingBalls", "higher", "(IIII)I"⟩ : Cond) ∈ gT := List.mem_filter.mpr ⟨List.mem_of_getElem? (i := 618) (by decide +kernel), (by decide +kernel)⟩
theorem we618 {c1 : Cond} : (.instanceMethod ⟨"RollingBalls", "higher", "(IIII)I"⟩ : Cond) ∈ c1 :: gT := List.mem_cons_of_mem _ wd618
theorem wd619 : (.selects "RollingBalls" ⟨"RollingBalls", "higher", "(IIII)I"⟩ ⟨"RollingBalls", "higher", "(IIII)I"⟩ : Cond) ∈ gT := List.mem_filter.mpr ⟨List.mem_of_getElem? (i := 619) (by decide +kernel), (by decide +kernel)⟩
theorem we619 {c1 : Cond} : (.selects "RollingBalls" ⟨"RollingBalls", "higher", "(IIII)I"⟩ ⟨"RollingBalls", "higher", "(IIII)I"⟩ : Cond) ∈ c1 :: gT := List.mem_cons_of_mem _ wd619
theorem wd620 : (.code ⟨"RollingBalls", "higher", "(IIII)I"⟩ prog_1_method_6_code 5 (some .int) : Cond) ∈ gT := List.mem_filter.mpr ⟨List.mem_of_getElem? (i := 620) (by decide +kernel), (by decide +kernel)⟩
theorem we620 {c1 : Cond} : (.code ⟨"RollingBalls", "higher", "(IIII)I"⟩ prog_1_method_6_code 5 (some .int) : Cond) ∈ c1 :: gT := List.mem_cons_of_mem _ wd620
theorem wd621 : (.methodLink "RollingBalls" 126 ⟨"java/lang/Integer", "compare", "(II)I"⟩ : Cond) ∈ gT := List.mem_filter.mpr ⟨List.mem_of_getElem? (i := 621) (by decide +kernel), (by decide +kernel)⟩
theorem we621 {c1 : Cond} : (.methodLink "RollingBalls" 126 ⟨"java/lang/Integer", "compare", "(II)I"⟩ : Cond) ∈ c1 :: gT := List.mem_cons_of_mem _ wd621
theorem wd622 : (.static ⟨"java/lang/Integer", "compare", "(II)I"⟩ : Cond) ∈ gT := List.mem_filter.mpr ⟨List.mem_of_getElem? (i := 622) (by decide +kernel), (by decide +kernel)⟩
theorem we622 {c1 : Cond} : (.static ⟨"java/lang/Integer", "compare", "(II)I"⟩ : Cond) ∈ c1 :: gT := List.mem_cons_of_mem _ wd622
theorem wd623 : (.code ⟨"java/lang/Integer", "compare", "(II)I"⟩ prog_12_method_40_code 2 (some .int) : Cond) ∈ gT := List.mem_filter.mpr ⟨List.mem_of_getElem? (i := 623) (by decide +kernel), (by decide +kernel)⟩
theorem we623 {c1 : Cond} : (.code ⟨"java/lang/Integer", "compare", "(II)I"⟩ prog_12_method_40_code 2 (some .int) : Cond) ∈ c1 :: gT := List.mem_cons_of_mem _ wd623
theorem wd624 : (.methodLink "RollingBallsLaw" 85 ⟨"RollingBallsLaw", "hits", "(LRollingBalls;II[J)I"⟩ : Cond) ∈ gT := List.mem_filter.mpr ⟨List.mem_of_getElem? (i := 624) (by decide +kernel), (by decide +kernel)⟩
theorem we624 {c1 : Cond} : (.methodLink "RollingBallsLaw" 85 ⟨"RollingBallsLaw", "hits", "(LRollingBalls;II[J)I"⟩ : Cond) ∈ c1 :: gT := List.mem_cons_of_mem _ wd624
theorem wd625 : (.static ⟨"RollingBallsLaw", "hits", "(LRollingBalls;II[J)I"⟩ : Cond) ∈ gT := List.mem_filter.mpr ⟨List.mem_of_getElem? (i := 625) (by decide +kernel), (by decide +kernel)⟩
theorem we625 {c1 : Cond} : (.static ⟨"RollingBallsLaw", "hits", "(LRollingBalls;II[J)I"⟩ : Cond) ∈ c1 :: gT := List.mem_cons_of_mem _ wd625
theorem wd626 : (.codeWith ⟨"RollingBallsLaw", "hits", "(LRollingBalls;II[J)I"⟩ method_8_code 5 (some .int) [(0, 10, 13, 13)] : Cond) ∈ gT := List.mem_filter.mpr ⟨List.mem_of_getElem? (i := 626) (by decide +kernel), (by decide +kernel)⟩
theorem we626 {c1 : Cond} : (.codeWith ⟨"RollingBallsLaw", "hits", "(LRollingBalls;II[J)I"⟩ method_8_code 5 (some .int) [(0, 10, 13, 13)] : Cond) ∈ c1 :: gT := List.mem_cons_of_mem _ wd626
theorem wd627 : (.methodLink "RollingBallsLaw" 28 ⟨"RollingBalls", "hits", "(II)I"⟩ : Cond) ∈ gT := List.mem_filter.mpr ⟨List.mem_of_getElem? (i := 627) (by decide +kernel), (by decide +kernel)⟩
theorem we627 {c1 : Cond} : (.methodLink "RollingBallsLaw" 28 ⟨"RollingBalls", "hits", "(II)I"⟩ : Cond) ∈ c1 :: gT := List.mem_cons_of_mem _ wd627
theorem wd628 : (.instanceMethod ⟨"RollingBalls", "hits", "(II)I"⟩ : Cond) ∈ gT := List.mem_filter.mpr ⟨List.mem_of_getElem? (i := 628) (by decide +kernel), (by decide +kernel)⟩
theorem we628 {c1 : Cond} : (.instanceMethod ⟨"RollingBalls", "hits", "(II)I"⟩ : Cond) ∈ c1 :: gT := List.mem_cons_of_mem _ wd628
theorem wd629 : (.selects "RollingBalls" ⟨"RollingBalls", "hits", "(II)I"⟩ ⟨"RollingBalls", "hits", "(II)I"⟩ : Cond) ∈ gT := List.mem_filter.mpr ⟨List.mem_of_getElem? (i := 629) (by decide +kernel), (by decide +kernel)⟩
theorem we629 {c1 : Cond} : (.selects "RollingBalls" ⟨"RollingBalls", "hits", "(II)I"⟩ ⟨"RollingBalls", "hits", "(II)I"⟩ : Cond) ∈ c1 :: gT := List.mem_cons_of_mem _ wd629
theorem wd630 : (.code ⟨"RollingBalls", "hits", "(II)I"⟩ prog_1_method_8_code 3 (some .int) : Cond) ∈ gT := List.mem_filter.mpr ⟨List.mem_of_getElem? (i := 630) (by decide +kernel), (by decide +kernel)⟩
theorem we630 {c1 : Cond} : (.code ⟨"RollingBalls", "hits", "(II)I"⟩ prog_1_method_8_code 3 (some .int) : Cond) ∈ c1 :: gT := List.mem_cons_of_mem _ wd630
theorem wd631 : (.methodLink "RollingBallsLaw" 89 ⟨"RollingBallsLaw", "safe", "(LRollingBalls;I[J)I"⟩ : Cond) ∈ gT := List.mem_filter.mpr ⟨List.mem_of_getElem? (i := 631) (by decide +kernel), (by decide +kernel)⟩
theorem we631 {c1 : Cond} : (.methodLink "RollingBallsLaw" 89 ⟨"RollingBallsLaw", "safe", "(LRollingBalls;I[J)I"⟩ : Cond) ∈ c1 :: gT := List.mem_cons_of_mem _ wd631
theorem wd632 : (.static ⟨"RollingBallsLaw", "safe", "(LRollingBalls;I[J)I"⟩ : Cond) ∈ gT := List.mem_filter.mpr ⟨List.mem_of_getElem? (i := 632) (by decide +kernel), (by decide +kernel)⟩
theorem we632 {c1 : Cond} : (.static ⟨"RollingBallsLaw", "safe", "(LRollingBalls;I[J)I"⟩ : Cond) ∈ c1 :: gT := List.mem_cons_of_mem _ wd632
theorem wd633 : (.codeWith ⟨"RollingBallsLaw", "safe", "(LRollingBalls;I[J)I"⟩ method_9_code 4 (some .int) [(0, 9, 12, 13)] : Cond) ∈ gT := List.mem_filter.mpr ⟨List.mem_of_getElem? (i := 633) (by decide +kernel), (by decide +kernel)⟩
theorem we633 {c1 : Cond} : (.codeWith ⟨"RollingBallsLaw", "safe", "(LRollingBalls;I[J)I"⟩ method_9_code 4 (some .int) [(0, 9, 12, 13)] : Cond) ∈ c1 :: gT := List.mem_cons_of_mem _ wd633
theorem wd634 : (.methodLink "RollingBallsLaw" 32 ⟨"RollingBalls", "safe", "(I)I"⟩ : Cond) ∈ gT := List.mem_filter.mpr ⟨List.mem_of_getElem? (i := 634) (by decide +kernel), (by decide +kernel)⟩
theorem we634 {c1 : Cond} : (.methodLink "RollingBallsLaw" 32 ⟨"RollingBalls", "safe", "(I)I"⟩ : Cond) ∈ c1 :: gT := List.mem_cons_of_mem _ wd634
theorem wd635 : (.instanceMethod ⟨"RollingBalls", "safe", "(I)I"⟩ : Cond) ∈ gT := List.mem_filter.mpr ⟨List.mem_of_getElem? (i := 635) (by decide +kernel), (by decide +kernel)⟩
theorem we635 {c1 : Cond} : (.instanceMethod ⟨"RollingBalls", "safe", "(I)I"⟩ : Cond) ∈ c1 :: gT := List.mem_cons_of_mem _ wd635
theorem wd636 : (.selects "RollingBalls" ⟨"RollingBalls", "safe", "(I)I"⟩ ⟨"RollingBalls", "safe", "(I)I"⟩ : Cond) ∈ gT := List.mem_filter.mpr ⟨List.mem_of_getElem? (i := 636) (by decide +kernel), (by decide +kernel)⟩
theorem we636 {c1 : Cond} : (.selects "RollingBalls" ⟨"RollingBalls", "safe", "(I)I"⟩ ⟨"RollingBalls", "safe", "(I)I"⟩ : Cond) ∈ c1 :: gT := List.mem_cons_of_mem _ wd636
theorem wd637 : (.code ⟨"RollingBalls", "safe", "(I)I"⟩ prog_1_method_9_code 4 (some .int) : Cond) ∈ gT := List.mem_filter.mpr ⟨List.mem_of_getElem? (i := 637) (by decide +kernel), (by decide +kernel)⟩
theorem we637 {c1 : Cond} : (.code ⟨"RollingBalls", "safe", "(I)I"⟩ prog_1_method_9_code 4 (some .int) : Cond) ∈ c1 :: gT := List.mem_cons_of_mem _ wd637
theorem wd638 : (.methodLink "RollingBallsLaw" 93 ⟨"RollingBallsLaw", "cover", "(LRollingBalls;II[J)I"⟩ : Cond) ∈ gT := List.mem_filter.mpr ⟨List.mem_of_getElem? (i := 638) (by decide +kernel), (by decide +kernel)⟩
theorem we638 {c1 : Cond} : (.methodLink "RollingBallsLaw" 93 ⟨"RollingBallsLaw", "cover", "(LRollingBalls;II[J)I"⟩ : Cond) ∈ c1 :: gT := List.mem_cons_of_mem _ wd638
theorem wd639 : (.static ⟨"RollingBallsLaw", "cover", "(LRollingBalls;II[J)I"⟩ : Cond) ∈ gT := List.mem_filter.mpr ⟨List.mem_of_getElem? (i := 639) (by decide +kernel), (by decide +kernel)⟩
theorem we639 {c1 : Cond} : (.static ⟨"RollingBallsLaw", "cover", "(LRollingBalls;II[J)I"⟩ : Cond) ∈ c1 :: gT := List.mem_cons_of_mem _ wd639
theorem wd640 : (.codeWith ⟨"RollingBallsLaw", "cover", "(LRollingBalls;II[J)I"⟩ method_10_code 5 (some .int) [(0, 10, 13, 13)] : Cond) ∈ gT := List.mem_filter.mpr ⟨List.mem_of_getElem? (i := 640) (by decide +kernel), (by decide +kernel)⟩
theorem we640 {c1 : Cond} : (.codeWith ⟨"RollingBallsLaw", "cover", "(LRollingBalls;II[J)I"⟩ method_10_code 5 (some .int) [(0, 10, 13, 13)] : Cond) ∈ c1 :: gT := List.mem_cons_of_mem _ wd640
theorem wd641 : (.methodLink "RollingBallsLaw" 36 ⟨"RollingBalls", "cover", "(II)I"⟩ : Cond) ∈ gT := List.mem_filter.mpr ⟨List.mem_of_getElem? (i := 641) (by decide +kernel), (by decide +kernel)⟩
theorem we641 {c1 : Cond} : (.methodLink "RollingBallsLaw" 36 ⟨"RollingBalls", "cover", "(II)I"⟩ : Cond) ∈ c1 :: gT := List.mem_cons_of_mem _ wd641
theorem wd642 : (.instanceMethod ⟨"RollingBalls", "cover", "(II)I"⟩ : Cond) ∈ gT := List.mem_filter.mpr ⟨List.mem_of_getElem? (i := 642) (by decide +kernel), (by decide +kernel)⟩
theorem we642 {c1 : Cond} : (.instanceMethod ⟨"RollingBalls", "cover", "(II)I"⟩ : Cond) ∈ c1 :: gT := List.mem_cons_of_mem _ wd642
theorem wd643 : (.selects "RollingBalls" ⟨"RollingBalls", "cover", "(II)I"⟩ ⟨"RollingBalls", "cover", "(II)I"⟩ : Cond) ∈ gT := List.mem_filter.mpr ⟨List.mem_of_getElem? (i := 643) (by decide +kernel), (by decide +kernel)⟩
theorem we643 {c1 : Cond} : (.selects "RollingBalls" ⟨"RollingBalls", "cover", "(II)I"⟩ ⟨"RollingBalls", "cover", "(II)I"⟩ : Cond) ∈ c1 :: gT := List.mem_cons_of_mem _ wd643
theorem wd644 : (.code ⟨"RollingBalls", "cover", "(II)I"⟩ prog_1_method_10_code 3 (some .int) : Cond) ∈ gT := List.mem_filter.mpr ⟨List.mem_of_getElem? (i := 644) (by decide +kernel), (by decide +kernel)⟩
theorem we644 {c1 : Cond} : (.code ⟨"RollingBalls", "cover", "(II)I"⟩ prog_1_method_10_code 3 (some .int) : Cond) ∈ c1 :: gT := List.mem_cons_of_mem _ wd644
theorem wd645 : (.methodLink "RollingBalls" 141 ⟨"RollingBalls$Ball", "coverOf", "(I)I"⟩ : Cond) ∈ gT := List.mem_filter.mpr ⟨List.mem_of_getElem? (i := 645) (by decide +kernel), (by decide +kernel)⟩
theorem we645 {c1 : Cond} : (.methodLink "RollingBalls" 141 ⟨"RollingBalls$Ball", "coverOf", "(I)I"⟩ : Cond) ∈ c1 :: gT := List.mem_cons_of_mem _ wd645
theorem wd646 : (.instanceMethod ⟨"RollingBalls$Ball", "coverOf", "(I)I"⟩ : Cond) ∈ gT := List.mem_filter.mpr ⟨List.mem_of_getElem? (i := 646) (by decide +kernel), (by decide +kernel)⟩
theorem we646 {c1 : Cond} : (.instanceMethod ⟨"RollingBalls$Ball", "coverOf", "(I)I"⟩ : Cond) ∈ c1 :: gT := List.mem_cons_of_mem _ wd646
theorem wd647 : (.selects "RollingBalls$Ball" ⟨"RollingBalls$Ball", "coverOf", "(I)I"⟩ ⟨"RollingBalls$Ball", "coverOf", "(I)I"⟩ : Cond) ∈ gT := List.mem_filter.mpr ⟨List.mem_of_getElem? (i := 647) (by decide +kernel), (by decide +kernel)⟩
theorem we647 {c1 : Cond} : (.selects "RollingBalls$Ball" ⟨"RollingBalls$Ball", "coverOf", "(I)I"⟩ ⟨"RollingBalls$Ball", "coverOf", "(I)I"⟩ : Cond) ∈ c1 :: gT := List.mem_cons_of_mem _ wd647
theorem wd648 : (.code ⟨"RollingBalls$Ball", "coverOf", "(I)I"⟩ prog_2_method_7_code 5 (some .int) : Cond) ∈ gT := List.mem_filter.mpr ⟨List.mem_of_getElem? (i := 648) (by decide +kernel), (by decide +kernel)⟩
theorem we648 {c1 : Cond} : (.code ⟨"RollingBalls$Ball", "coverOf", "(I)I"⟩ prog_2_method_7_code 5 (some .int) : Cond) ∈ c1 :: gT := List.mem_cons_of_mem _ wd648
theorem wd649 : (.methodLink "RollingBalls$Ball" 105 ⟨"java/lang/Math", "min", "(II)I"⟩ : Cond) ∈ gT := List.mem_filter.mpr ⟨List.mem_of_getElem? (i := 649) (by decide +kernel), (by decide +kernel)⟩
theorem we649 {c1 : Cond} : (.methodLink "RollingBalls$Ball" 105 ⟨"java/lang/Math", "min", "(II)I"⟩ : Cond) ∈ c1 :: gT := List.mem_cons_of_mem _ wd649
theorem wd650 : (.methodLink "RollingBallsLaw" 96 ⟨"RollingBallsLaw", "may", "(LRollingBalls;III[J)I"⟩ : Cond) ∈ gT := List.mem_filter.mpr ⟨List.mem_of_getElem? (i := 650) (by decide +kernel), (by decide +kernel)⟩
theorem we650 {c1 : Cond} : (.methodLink "RollingBallsLaw" 96 ⟨"RollingBallsLaw", "may", "(LRollingBalls;III[J)I"⟩ : Cond) ∈ c1 :: gT := List.mem_cons_of_mem _ wd650
theorem wd651 : (.static ⟨"RollingBallsLaw", "may", "(LRollingBalls;III[J)I"⟩ : Cond) ∈ gT := List.mem_filter.mpr ⟨List.mem_of_getElem? (i := 651) (by decide +kernel), (by decide +kernel)⟩
theorem we651 {c1 : Cond} : (.static ⟨"RollingBallsLaw", "may", "(LRollingBalls;III[J)I"⟩ : Cond) ∈ c1 :: gT := List.mem_cons_of_mem _ wd651
theorem wd652 : (.codeWith ⟨"RollingBallsLaw", "may", "(LRollingBalls;III[J)I"⟩ method_11_code 6 (some .int) [(0, 12, 15, 13), (0, 12, 19, 42)] : Cond) ∈ gT := List.mem_filter.mpr ⟨List.mem_of_getElem? (i := 652) (by decide +kernel), (by decide +kernel)⟩
theorem we652 {c1 : Cond} : (.codeWith ⟨"RollingBallsLaw", "may", "(LRollingBalls;III[J)I"⟩ method_11_code 6 (some .int) [(0, 12, 15, 13), (0, 12, 19, 42)] : Cond) ∈ c1 :: gT := List.mem_cons_of_mem _ wd652
theorem wd653 : (.classLink "RollingBallsLaw" 42 "java/lang/IllegalStateException" : Cond) ∈ gT := List.mem_filter.mpr ⟨List.mem_of_getElem? (i := 653) (by decide +kernel), (by decide +kernel)⟩
theorem we653 {c1 : Cond} : (.classLink "RollingBallsLaw" 42 "java/lang/IllegalStateException" : Cond) ∈ c1 :: gT := List.mem_cons_of_mem _ wd653
theorem wd654 : (.methodLink "RollingBallsLaw" 39 ⟨"RollingBalls", "may", "(III)I"⟩ : Cond) ∈ gT := List.mem_filter.mpr ⟨List.mem_of_getElem? (i := 654) (by decide +kernel), (by decide +kernel)⟩
theorem we654 {c1 : Cond} : (.methodLink "RollingBallsLaw" 39 ⟨"RollingBalls", "may", "(III)I"⟩ : Cond) ∈ c1 :: gT := List.mem_cons_of_mem _ wd654
theorem wd655 : (.instanceMethod ⟨"RollingBalls", "may", "(III)I"⟩ : Cond) ∈ gT := List.mem_filter.mpr ⟨List.mem_of_getElem? (i := 655) (by decide +kernel), (by decide +kernel)⟩
theorem we655 {c1 : Cond} : (.instanceMethod ⟨"RollingBalls", "may", "(III)I"⟩ : Cond) ∈ c1 :: gT := List.mem_cons_of_mem _ wd655
theorem wd656 : (.selects "RollingBalls" ⟨"RollingBalls", "may", "(III)I"⟩ ⟨"RollingBalls", "may", "(III)I"⟩ : Cond) ∈ gT := List.mem_filter.mpr ⟨List.mem_of_getElem? (i := 656) (by decide +kernel), (by decide +kernel)⟩
theorem we656 {c1 : Cond} : (.selects "RollingBalls" ⟨"RollingBalls", "may", "(III)I"⟩ ⟨"RollingBalls", "may", "(III)I"⟩ : Cond) ∈ c1 :: gT := List.mem_cons_of_mem _ wd656
theorem wd657 : (.code ⟨"RollingBalls", "may", "(III)I"⟩ prog_1_method_11_code 5 (some .int) : Cond) ∈ gT := List.mem_filter.mpr ⟨List.mem_of_getElem? (i := 657) (by decide +kernel), (by decide +kernel)⟩
theorem we657 {c1 : Cond} : (.code ⟨"RollingBalls", "may", "(III)I"⟩ prog_1_method_11_code 5 (some .int) : Cond) ∈ c1 :: gT := List.mem_cons_of_mem _ wd657
theorem wd658 : (.methodLink "RollingBalls" 144 ⟨"RollingBalls$Plan", "isFull", "()Z"⟩ : Cond) ∈ gT := List.mem_filter.mpr ⟨List.mem_of_getElem? (i := 658) (by decide +kernel), (by decide +kernel)⟩
theorem we658 {c1 : Cond} : (.methodLink "RollingBalls" 144 ⟨"RollingBalls$Plan", "isFull", "()Z"⟩ : Cond) ∈ c1 :: gT := List.mem_cons_of_mem _ wd658
theorem wd659 : (.instanceMethod ⟨"RollingBalls$Plan", "isFull", "()Z"⟩ : Cond) ∈ gT := List.mem_filter.mpr ⟨List.mem_of_getElem? (i := 659) (by decide +kernel), (by decide +kernel)⟩
theorem we659 {c1 : Cond} : (.instanceMethod ⟨"RollingBalls$Plan", "isFull", "()Z"⟩ : Cond) ∈ c1 :: gT := List.mem_cons_of_mem _ wd659
theorem wd660 : (.selects "RollingBalls$Plan" ⟨"RollingBalls$Plan", "isFull", "()Z"⟩ ⟨"RollingBalls$Plan", "isFull", "()Z"⟩ : Cond) ∈ gT := List.mem_filter.mpr ⟨List.mem_of_getElem? (i := 660) (by decide +kernel), (by decide +kernel)⟩
theorem we660 {c1 : Cond} : (.selects "RollingBalls$Plan" ⟨"RollingBalls$Plan", "isFull", "()Z"⟩ ⟨"RollingBalls$Plan", "isFull", "()Z"⟩ : Cond) ∈ c1 :: gT := List.mem_cons_of_mem _ wd660
theorem wd661 : (.code ⟨"RollingBalls$Plan", "isFull", "()Z"⟩ prog_5_method_3_code 1 (some .boolean) : Cond) ∈ gT := List.mem_filter.mpr ⟨List.mem_of_getElem? (i := 661) (by decide +kernel), (by decide +kernel)⟩
theorem we661 {c1 : Cond} : (.code ⟨"RollingBalls$Plan", "isFull", "()Z"⟩ prog_5_method_3_code 1 (some .boolean) : Cond) ∈ c1 :: gT := List.mem_cons_of_mem _ wd661
theorem wd662 : (.classLink "RollingBalls" 148 "java/lang/IllegalStateException" : Cond) ∈ gT := List.mem_filter.mpr ⟨List.mem_of_getElem? (i := 662) (by decide +kernel), (by decide +kernel)⟩
theorem we662 {c1 : Cond} : (.classLink "RollingBalls" 148 "java/lang/IllegalStateException" : Cond) ∈ c1 :: gT := List.mem_cons_of_mem _ wd662
theorem wd663 : (.instantiable "java/lang/IllegalStateException" 6 : Cond) ∈ gT := List.mem_filter.mpr ⟨List.mem_of_getElem? (i := 663) (by decide +kernel), (by decide +kernel)⟩
theorem we663 {c1 : Cond} : (.instantiable "java/lang/IllegalStateException" 6 : Cond) ∈ c1 :: gT := List.mem_cons_of_mem _ wd663
theorem wd665 : (.selects "java/lang/IllegalStateException" ⟨"java/lang/Throwable", "fillInStackTrace", "(I)Ljava/lang/Throwable;"⟩ ⟨"java/lang/Throwable", "fillInStackTrace", "(I)Ljava/lang/Throwable;"⟩ : Cond) ∈ gT := List.mem_filter.mpr ⟨List.mem_of_getElem? (i := 665) (by decide +kernel), (by decide +kernel)⟩
theorem we665 {c1 : Cond} : (.selects "java/lang/IllegalStateException" ⟨"java/lang/Throwable", "fillInStackTrace", "(I)Ljava/lang/Throwable;"⟩ ⟨"java/lang/Throwable", "fillInStackTrace", "(I)Ljava/lang/Throwable;"⟩ : Cond) ∈ c1 :: gT := List.mem_cons_of_mem _ wd665
theorem wd666 : (.lays "java/lang/IllegalStateException" "java/lang/Throwable" "cause" "Ljava/lang/Throwable;" : Cond) ∈ gT := List.mem_filter.mpr ⟨List.mem_of_getElem? (i := 666) (by decide +kernel), (by decide +kernel)⟩
theorem we666 {c1 : Cond} : (.lays "java/lang/IllegalStateException" "java/lang/Throwable" "cause" "Ljava/lang/Throwable;" : Cond) ∈ c1 :: gT := List.mem_cons_of_mem _ wd666
theorem wd667 : (.lays "java/lang/IllegalStateException" "java/lang/Throwable" "stackTrace" "[Ljava/lang/StackTraceElement;" : Cond) ∈ gT := List.mem_filter.mpr ⟨List.mem_of_getElem? (i := 667) (by decide +kernel), (by decide +kernel)⟩
theorem we667 {c1 : Cond} : (.lays "java/lang/IllegalStateException" "java/lang/Throwable" "stackTrace" "[Ljava/lang/StackTraceElement;" : Cond) ∈ c1 :: gT := List.mem_cons_of_mem _ wd667
theorem wd668 : (.lays "java/lang/IllegalStateException" "java/lang/Throwable" "suppressedExceptions" "Ljava/util/List;" : Cond) ∈ gT := List.mem_filter.mpr ⟨List.mem_of_getElem? (i := 668) (by decide +kernel), (by decide +kernel)⟩
theorem we668 {c1 : Cond} : (.lays "java/lang/IllegalStateException" "java/lang/Throwable" "suppressedExceptions" "Ljava/util/List;" : Cond) ∈ c1 :: gT := List.mem_cons_of_mem _ wd668
theorem wd669 : (.lays "java/lang/IllegalStateException" "java/lang/Throwable" "detailMessage" "Ljava/lang/String;" : Cond) ∈ gT := List.mem_filter.mpr ⟨List.mem_of_getElem? (i := 669) (by decide +kernel), (by decide +kernel)⟩
theorem we669 {c1 : Cond} : (.lays "java/lang/IllegalStateException" "java/lang/Throwable" "detailMessage" "Ljava/lang/String;" : Cond) ∈ c1 :: gT := List.mem_cons_of_mem _ wd669
theorem wd670 : (.lays "java/lang/IllegalStateException" "java/lang/Throwable" "backtrace" "Ljava/lang/Object;" : Cond) ∈ gT := List.mem_filter.mpr ⟨List.mem_of_getElem? (i := 670) (by decide +kernel), (by decide +kernel)⟩
theorem we670 {c1 : Cond} : (.lays "java/lang/IllegalStateException" "java/lang/Throwable" "backtrace" "Ljava/lang/Object;" : Cond) ∈ c1 :: gT := List.mem_cons_of_mem _ wd670
theorem wd672 : (.methodLink "RollingBalls" 152 ⟨"java/lang/IllegalStateException", "<init>", "(Ljava/lang/String;)V"⟩ : Cond) ∈ gT := List.mem_filter.mpr ⟨List.mem_of_getElem? (i := 672) (by decide +kernel), (by decide +kernel)⟩
theorem we672 {c1 : Cond} : (.methodLink "RollingBalls" 152 ⟨"java/lang/IllegalStateException", "<init>", "(Ljava/lang/String;)V"⟩ : Cond) ∈ c1 :: gT := List.mem_cons_of_mem _ wd672
theorem wd673 : (.instanceMethod ⟨"java/lang/IllegalStateException", "<init>", "(Ljava/lang/String;)V"⟩ : Cond) ∈ gT := List.mem_filter.mpr ⟨List.mem_of_getElem? (i := 673) (by decide +kernel), (by decide +kernel)⟩
theorem we673 {c1 : Cond} : (.instanceMethod ⟨"java/lang/IllegalStateException", "<init>", "(Ljava/lang/String;)V"⟩ : Cond) ∈ c1 :: gT := List.mem_cons_of_mem _ wd673
theorem wd674 : (.code ⟨"java/lang/IllegalStateException", "<init>", "(Ljava/lang/String;)V"⟩ prog_11_method_2_code 2 none : Cond) ∈ gT := List.mem_filter.mpr ⟨List.mem_of_getElem? (i := 674) (by decide +kernel), (by decide +kernel)⟩
theorem we674 {c1 : Cond} : (.code ⟨"java/lang/IllegalStateException", "<init>", "(Ljava/lang/String;)V"⟩ prog_11_method_2_code 2 none : Cond) ∈ c1 :: gT := List.mem_cons_of_mem _ wd674
theorem wd675 : (.methodLink "java/lang/IllegalStateException" 7 ⟨"java/lang/RuntimeException", "<init>", "(Ljava/lang/String;)V"⟩ : Cond) ∈ gT := List.mem_filter.mpr ⟨List.mem_of_getElem? (i := 675) (by decide +kernel), (by decide +kernel)⟩
theorem we675 {c1 : Cond} : (.methodLink "java/lang/IllegalStateException" 7 ⟨"java/lang/RuntimeException", "<init>", "(Ljava/lang/String;)V"⟩ : Cond) ∈ c1 :: gT := List.mem_cons_of_mem _ wd675
theorem wd676 : (.lays "java/lang/IllegalStateException" "java/lang/Throwable" "depth" "I" : Cond) ∈ gT := List.mem_filter.mpr ⟨List.mem_of_getElem? (i := 676) (by decide +kernel), (by decide +kernel)⟩
theorem we676 {c1 : Cond} : (.lays "java/lang/IllegalStateException" "java/lang/Throwable" "depth" "I" : Cond) ∈ c1 :: gT := List.mem_cons_of_mem _ wd676
theorem wd678 : (.methodLink "RollingBalls" 153 ⟨"RollingBalls$Plan", "add", "(II)V"⟩ : Cond) ∈ gT := List.mem_filter.mpr ⟨List.mem_of_getElem? (i := 678) (by decide +kernel), (by decide +kernel)⟩
theorem we678 {c1 : Cond} : (.methodLink "RollingBalls" 153 ⟨"RollingBalls$Plan", "add", "(II)V"⟩ : Cond) ∈ c1 :: gT := List.mem_cons_of_mem _ wd678
theorem wd679 : (.instanceMethod ⟨"RollingBalls$Plan", "add", "(II)V"⟩ : Cond) ∈ gT := List.mem_filter.mpr ⟨List.mem_of_getElem? (i := 679) (by decide +kernel), (by decide +kernel)⟩
theorem we679 {c1 : Cond} : (.instanceMethod ⟨"RollingBalls$Plan", "add", "(II)V"⟩ : Cond) ∈ c1 :: gT := List.mem_cons_of_mem _ wd679
theorem wd680 : (.selects "RollingBalls$Plan" ⟨"RollingBalls$Plan", "add", "(II)V"⟩ ⟨"RollingBalls$Plan", "add", "(II)V"⟩ : Cond) ∈ gT := List.mem_filter.mpr ⟨List.mem_of_getElem? (i := 680) (by decide +kernel), (by decide +kernel)⟩
theorem we680 {c1 : Cond} : (.selects "RollingBalls$Plan" ⟨"RollingBalls$Plan", "add", "(II)V"⟩ ⟨"RollingBalls$Plan", "add", "(II)V"⟩ : Cond) ∈ c1 :: gT := List.mem_cons_of_mem _ wd680
theorem wd681 : (.code ⟨"RollingBalls$Plan", "add", "(II)V"⟩ prog_5_method_4_code 3 none : Cond) ∈ gT := List.mem_filter.mpr ⟨List.mem_of_getElem? (i := 681) (by decide +kernel), (by decide +kernel)⟩
theorem we681 {c1 : Cond} : (.code ⟨"RollingBalls$Plan", "add", "(II)V"⟩ prog_5_method_4_code 3 none : Cond) ∈ c1 :: gT := List.mem_cons_of_mem _ wd681
theorem wd682 : (.methodLink "RollingBallsLaw" 103 ⟨"RollingBallsLaw", "want", "(LRollingBalls;IIZ[J)I"⟩ : Cond) ∈ gT := List.mem_filter.mpr ⟨List.mem_of_getElem? (i := 682) (by decide +kernel), (by decide +kernel)⟩
theorem we682 {c1 : Cond} : (.methodLink "RollingBallsLaw" 103 ⟨"RollingBallsLaw", "want", "(LRollingBalls;IIZ[J)I"⟩ : Cond) ∈ c1 :: gT := List.mem_cons_of_mem _ wd682
theorem wd683 : (.static ⟨"RollingBallsLaw", "want", "(LRollingBalls;IIZ[J)I"⟩ : Cond) ∈ gT := List.mem_filter.mpr ⟨List.mem_of_getElem? (i := 683) (by decide +kernel), (by decide +kernel)⟩
theorem we683 {c1 : Cond} : (.static ⟨"RollingBallsLaw", "want", "(LRollingBalls;IIZ[J)I"⟩ : Cond) ∈ c1 :: gT := List.mem_cons_of_mem _ wd683
theorem wd684 : (.codeWith ⟨"RollingBallsLaw", "want", "(LRollingBalls;IIZ[J)I"⟩ method_12_code 6 (some .int) [(0, 19, 22, 13)] : Cond) ∈ gT := List.mem_filter.mpr ⟨List.mem_of_getElem? (i := 684) (by decide +kernel), (by decide +kernel)⟩
theorem we684 {c1 : Cond} : (.codeWith ⟨"RollingBallsLaw", "want", "(LRollingBalls;IIZ[J)I"⟩ method_12_code 6 (some .int) [(0, 19, 22, 13)] : Cond) ∈ c1 :: gT := List.mem_cons_of_mem _ wd684
theorem wd685 : (.methodLink "RollingBallsLaw" 44 ⟨"RollingBalls", "want", "(IIZ)Z"⟩ : Cond) ∈ gT := List.mem_filter.mpr ⟨List.mem_of_getElem? (i := 685) (by decide +kernel), (by decide +kernel)⟩
theorem we685 {c1 : Cond} : (.methodLink "RollingBallsLaw" 44 ⟨"RollingBalls", "want", "(IIZ)Z"⟩ : Cond) ∈ c1 :: gT := List.mem_cons_of_mem _ wd685
theorem wd686 : (.instanceMethod ⟨"RollingBalls", "want", "(IIZ)Z"⟩ : Cond) ∈ gT := List.mem_filter.mpr ⟨List.mem_of_getElem? (i := 686) (by decide +kernel), (by decide +kernel)⟩
theorem we686 {c1 : Cond} : (.instanceMethod ⟨"RollingBalls", "want", "(IIZ)Z"⟩ : Cond) ∈ c1 :: gT := List.mem_cons_of_mem _ wd686
theorem wd687 : (.selects "RollingBalls" ⟨"RollingBalls", "want", "(IIZ)Z"⟩ ⟨"RollingBalls", "want", "(IIZ)Z"⟩ : Cond) ∈ gT := List.mem_filter.mpr ⟨List.mem_of_getElem? (i := 687) (by decide +kernel), (by decide +kernel)⟩
theorem we687 {c1 : Cond} : (.selects "RollingBalls" ⟨"RollingBalls", "want", "(IIZ)Z"⟩ ⟨"RollingBalls", "want", "(IIZ)Z"⟩ : Cond) ∈ c1 :: gT := List.mem_cons_of_mem _ wd687
theorem wd688 : (.code ⟨"RollingBalls", "want", "(IIZ)Z"⟩ prog_1_method_13_code 6 (some .boolean) : Cond) ∈ gT := List.mem_filter.mpr ⟨List.mem_of_getElem? (i := 688) (by decide +kernel), (by decide +kernel)⟩
theorem we688 {c1 : Cond} : (.code ⟨"RollingBalls", "want", "(IIZ)Z"⟩ prog_1_method_13_code 6 (some .boolean) : Cond) ∈ c1 :: gT := List.mem_cons_of_mem _ wd688
theorem wd689 : (.classLink "RollingBallsLaw" 57 "RollingBallsModel" : Cond) ∈ gT := List.mem_filter.mpr ⟨List.mem_of_getElem? (i := 689) (by decide +kernel), (by decide +kernel)⟩
theorem we689 {c1 : Cond} : (.classLink "RollingBallsLaw" 57 "RollingBallsModel" : Cond) ∈ c1 :: gT := List.mem_cons_of_mem _ wd689
theorem wd690 : (.instantiable "RollingBallsModel" 15 : Cond) ∈ gT := List.mem_filter.mpr ⟨List.mem_of_getElem? (i := 690) (by decide +kernel), (by decide +kernel)⟩
theorem we690 {c1 : Cond} : (.instantiable "RollingBallsModel" 15 : Cond) ∈ c1 :: gT := List.mem_cons_of_mem _ wd690
theorem wd691 : (.methodLink "RollingBallsLaw" 59 ⟨"RollingBallsModel", "<init>", "(III)V"⟩ : Cond) ∈ gT := List.mem_filter.mpr ⟨List.mem_of_getElem? (i := 691) (by decide +kernel), (by decide +kernel)⟩
theorem we691 {c1 : Cond} : (.methodLink "RollingBallsLaw" 59 ⟨"RollingBallsModel", "<init>", "(III)V"⟩ : Cond) ∈ c1 :: gT := List.mem_cons_of_mem _ wd691
theorem wd692 : (.instanceMethod ⟨"RollingBallsModel", "<init>", "(III)V"⟩ : Cond) ∈ gT := List.mem_filter.mpr ⟨List.mem_of_getElem? (i := 692) (by decide +kernel), (by decide +kernel)⟩
theorem we692 {c1 : Cond} : (.instanceMethod ⟨"RollingBallsModel", "<init>", "(III)V"⟩ : Cond) ∈ c1 :: gT := List.mem_cons_of_mem _ wd692
theorem wd693 : (.code ⟨"RollingBallsModel", "<init>", "(III)V"⟩ prog_8_method_1_code 4 none : Cond) ∈ gT := List.mem_filter.mpr ⟨List.mem_of_getElem? (i := 693) (by decide +kernel), (by decide +kernel)⟩
theorem we693 {c1 : Cond} : (.code ⟨"RollingBallsModel", "<init>", "(III)V"⟩ prog_8_method_1_code 4 none : Cond) ∈ c1 :: gT := List.mem_cons_of_mem _ wd693
theorem wd694 : (.methodLink "RollingBallsModel" 1 ⟨"java/lang/Object", "<init>", "()V"⟩ : Cond) ∈ gT := List.mem_filter.mpr ⟨List.mem_of_getElem? (i := 694) (by decide +kernel), (by decide +kernel)⟩
theorem we694 {c1 : Cond} : (.methodLink "RollingBallsModel" 1 ⟨"java/lang/Object", "<init>", "()V"⟩ : Cond) ∈ c1 :: gT := List.mem_cons_of_mem _ wd694
theorem wd695 : (.methodLink "RollingBallsModel" 41 ⟨"RollingBallsModel", "nearest", "(II)I"⟩ : Cond) ∈ gT := List.mem_filter.mpr ⟨List.mem_of_getElem? (i := 695) (by decide +kernel), (by decide +kernel)⟩
theorem we695 {c1 : Cond} : (.methodLink "RollingBallsModel" 41 ⟨"RollingBallsModel", "nearest", "(II)I"⟩ : Cond) ∈ c1 :: gT := List.mem_cons_of_mem _ wd695
theorem wd696 : (.static ⟨"RollingBallsModel", "nearest", "(II)I"⟩ : Cond) ∈ gT := List.mem_filter.mpr ⟨List.mem_of_getElem? (i := 696) (by decide +kernel), (by decide +kernel)⟩
theorem we696 {c1 : Cond} : (.static ⟨"RollingBallsModel", "nearest", "(II)I"⟩ : Cond) ∈ c1 :: gT := List.mem_cons_of_mem _ wd696
theorem wd697 : (.code ⟨"RollingBallsModel", "nearest", "(II)I"⟩ prog_8_method_2_code 2 (some .int) : Cond) ∈ gT := List.mem_filter.mpr ⟨List.mem_of_getElem? (i := 697) (by decide +kernel), (by decide +kernel)⟩
theorem we697 {c1 : Cond} : (.code ⟨"RollingBallsModel", "nearest", "(II)I"⟩ prog_8_method_2_code 2 (some .int) : Cond) ∈ c1 :: gT := List.mem_cons_of_mem _ wd697
theorem wd698 : (.fieldLink "RollingBallsModel" 55 "RollingBallsModel" "code" "I" : Cond) ∈ gT := List.mem_filter.mpr ⟨List.mem_of_getElem? (i := 698) (by decide +kernel), (by decide +kernel)⟩
theorem we698 {c1 : Cond} : (.fieldLink "RollingBallsModel" 55 "RollingBallsModel" "code" "I" : Cond) ∈ c1 :: gT := List.mem_cons_of_mem _ wd698
theorem wd699 : (.fieldLink "RollingBallsModel" 45 "RollingBallsModel" "wide" "I" : Cond) ∈ gT := List.mem_filter.mpr ⟨List.mem_of_getElem? (i := 699) (by decide +kernel), (by decide +kernel)⟩
theorem we699 {c1 : Cond} : (.fieldLink "RollingBallsModel" 45 "RollingBallsModel" "wide" "I" : Cond) ∈ c1 :: gT := List.mem_cons_of_mem _ wd699
theorem wd700 : (.fieldLink "RollingBallsModel" 49 "RollingBallsModel" "deep" "I" : Cond) ∈ gT := List.mem_filter.mpr ⟨List.mem_of_getElem? (i := 700) (by decide +kernel), (by decide +kernel)⟩
theorem we700 {c1 : Cond} : (.fieldLink "RollingBallsModel" 49 "RollingBallsModel" "deep" "I" : Cond) ∈ c1 :: gT := List.mem_cons_of_mem _ wd700
theorem wd701 : (.fieldLink "RollingBallsModel" 52 "RollingBallsModel" "radius" "I" : Cond) ∈ gT := List.mem_filter.mpr ⟨List.mem_of_getElem? (i := 701) (by decide +kernel), (by decide +kernel)⟩
theorem we701 {c1 : Cond} : (.fieldLink "RollingBallsModel" 52 "RollingBallsModel" "radius" "I" : Cond) ∈ c1 :: gT := List.mem_cons_of_mem _ wd701
theorem wd702 : (.fieldLink "RollingBallsModel" 7 "RollingBallsModel" "heights" "[I" : Cond) ∈ gT := List.mem_filter.mpr ⟨List.mem_of_getElem? (i := 702) (by decide +kernel), (by decide +kernel)⟩
theorem we702 {c1 : Cond} : (.fieldLink "RollingBallsModel" 7 "RollingBallsModel" "heights" "[I" : Cond) ∈ c1 :: gT := List.mem_cons_of_mem _ wd702
theorem wd703 : (.fieldLink "RollingBallsModel" 13 "RollingBallsModel" "rods" "[I" : Cond) ∈ gT := List.mem_filter.mpr ⟨List.mem_of_getElem? (i := 703) (by decide +kernel), (by decide +kernel)⟩
theorem we703 {c1 : Cond} : (.fieldLink "RollingBallsModel" 13 "RollingBallsModel" "rods" "[I" : Cond) ∈ c1 :: gT := List.mem_cons_of_mem _ wd703
theorem wd704 : (.fieldLink "RollingBallsModel" 16 "RollingBallsModel" "tips" "[I" : Cond) ∈ gT := List.mem_filter.mpr ⟨List.mem_of_getElem? (i := 704) (by decide +kernel), (by decide +kernel)⟩
theorem we704 {c1 : Cond} : (.fieldLink "RollingBallsModel" 16 "RollingBallsModel" "tips" "[I" : Cond) ∈ c1 :: gT := List.mem_cons_of_mem _ wd704
theorem wd705 : (.fieldLink "RollingBallsModel" 19 "RollingBallsModel" "wanted" "[Z" : Cond) ∈ gT := List.mem_filter.mpr ⟨List.mem_of_getElem? (i := 705) (by decide +kernel), (by decide +kernel)⟩
theorem we705 {c1 : Cond} : (.fieldLink "RollingBallsModel" 19 "RollingBallsModel" "wanted" "[Z" : Cond) ∈ c1 :: gT := List.mem_cons_of_mem _ wd705
theorem wd706 : (.fieldLink "RollingBallsModel" 114 "RollingBallsModel" "may" "I" : Cond) ∈ gT := List.mem_filter.mpr ⟨List.mem_of_getElem? (i := 706) (by decide +kernel), (by decide +kernel)⟩
theorem we706 {c1 : Cond} : (.fieldLink "RollingBallsModel" 114 "RollingBallsModel" "may" "I" : Cond) ∈ c1 :: gT := List.mem_cons_of_mem _ wd706
theorem wd707 : (.fieldLink "RollingBallsModel" 23 "RollingBallsModel" "mayPoint" "[I" : Cond) ∈ gT := List.mem_filter.mpr ⟨List.mem_of_getElem? (i := 707) (by decide +kernel), (by decide +kernel)⟩
theorem we707 {c1 : Cond} : (.fieldLink "RollingBallsModel" 23 "RollingBallsModel" "mayPoint" "[I" : Cond) ∈ c1 :: gT := List.mem_cons_of_mem _ wd707
theorem wd708 : (.fieldLink "RollingBallsModel" 26 "RollingBallsModel" "mayLength" "[I" : Cond) ∈ gT := List.mem_filter.mpr ⟨List.mem_of_getElem? (i := 708) (by decide +kernel), (by decide +kernel)⟩
theorem we708 {c1 : Cond} : (.fieldLink "RollingBallsModel" 26 "RollingBallsModel" "mayLength" "[I" : Cond) ∈ c1 :: gT := List.mem_cons_of_mem _ wd708
theorem wd709 : (.fieldLink "RollingBallsModel" 29 "RollingBallsModel" "whole" "[I" : Cond) ∈ gT := List.mem_filter.mpr ⟨List.mem_of_getElem? (i := 709) (by decide +kernel), (by decide +kernel)⟩
theorem we709 {c1 : Cond} : (.fieldLink "RollingBallsModel" 29 "RollingBallsModel" "whole" "[I" : Cond) ∈ c1 :: gT := List.mem_cons_of_mem _ wd709
theorem wd710 : (.fieldLink "RollingBallsModel" 32 "RollingBallsModel" "square" "[I" : Cond) ∈ gT := List.mem_filter.mpr ⟨List.mem_of_getElem? (i := 710) (by decide +kernel), (by decide +kernel)⟩
theorem we710 {c1 : Cond} : (.fieldLink "RollingBallsModel" 32 "RollingBallsModel" "square" "[I" : Cond) ∈ c1 :: gT := List.mem_cons_of_mem _ wd710
theorem wd711 : (.fieldLink "RollingBallsModel" 35 "RollingBallsModel" "hits" "[I" : Cond) ∈ gT := List.mem_filter.mpr ⟨List.mem_of_getElem? (i := 711) (by decide +kernel), (by decide +kernel)⟩
theorem we711 {c1 : Cond} : (.fieldLink "RollingBallsModel" 35 "RollingBallsModel" "hits" "[I" : Cond) ∈ c1 :: gT := List.mem_cons_of_mem _ wd711
theorem wd712 : (.fieldLink "RollingBallsModel" 38 "RollingBallsModel" "wasSafe" "[Z" : Cond) ∈ gT := List.mem_filter.mpr ⟨List.mem_of_getElem? (i := 712) (by decide +kernel), (by decide +kernel)⟩
theorem we712 {c1 : Cond} : (.fieldLink "RollingBallsModel" 38 "RollingBallsModel" "wasSafe" "[Z" : Cond) ∈ c1 :: gT := List.mem_cons_of_mem _ wd712
theorem wd713 : (.lays "RollingBallsModel" "RollingBallsModel" "code" "I" : Cond) ∈ gT := List.mem_filter.mpr ⟨List.mem_of_getElem? (i := 713) (by decide +kernel), (by decide +kernel)⟩
theorem we713 {c1 : Cond} : (.lays "RollingBallsModel" "RollingBallsModel" "code" "I" : Cond) ∈ c1 :: gT := List.mem_cons_of_mem _ wd713
theorem wd715 : (.laysFinal "RollingBallsModel" "RollingBallsModel" "wide" "I" : Cond) ∈ gT := List.mem_filter.mpr ⟨List.mem_of_getElem? (i := 715) (by decide +kernel), (by decide +kernel)⟩
theorem we715 {c1 : Cond} : (.laysFinal "RollingBallsModel" "RollingBallsModel" "wide" "I" : Cond) ∈ c1 :: gT := List.mem_cons_of_mem _ wd715
theorem wd717 : (.laysFinal "RollingBallsModel" "RollingBallsModel" "deep" "I" : Cond) ∈ gT := List.mem_filter.mpr ⟨List.mem_of_getElem? (i := 717) (by decide +kernel), (by decide +kernel)⟩
theorem we717 {c1 : Cond} : (.laysFinal "RollingBallsModel" "RollingBallsModel" "deep" "I" : Cond) ∈ c1 :: gT := List.mem_cons_of_mem _ wd717
theorem wd719 : (.laysFinal "RollingBallsModel" "RollingBallsModel" "radius" "I" : Cond) ∈ gT := List.mem_filter.mpr ⟨List.mem_of_getElem? (i := 719) (by decide +kernel), (by decide +kernel)⟩
theorem we719 {c1 : Cond} : (.laysFinal "RollingBallsModel" "RollingBallsModel" "radius" "I" : Cond) ∈ c1 :: gT := List.mem_cons_of_mem _ wd719
theorem wd721 : (.laysFinal "RollingBallsModel" "RollingBallsModel" "heights" "[I" : Cond) ∈ gT := List.mem_filter.mpr ⟨List.mem_of_getElem? (i := 721) (by decide +kernel), (by decide +kernel)⟩
theorem we721 {c1 : Cond} : (.laysFinal "RollingBallsModel" "RollingBallsModel" "heights" "[I" : Cond) ∈ c1 :: gT := List.mem_cons_of_mem _ wd721
theorem wd723 : (.laysFinal "RollingBallsModel" "RollingBallsModel" "rods" "[I" : Cond) ∈ gT := List.mem_filter.mpr ⟨List.mem_of_getElem? (i := 723) (by decide +kernel), (by decide +kernel)⟩
theorem we723 {c1 : Cond} : (.laysFinal "RollingBallsModel" "RollingBallsModel" "rods" "[I" : Cond) ∈ c1 :: gT := List.mem_cons_of_mem _ wd723
theorem wd725 : (.laysFinal "RollingBallsModel" "RollingBallsModel" "tips" "[I" : Cond) ∈ gT := List.mem_filter.mpr ⟨List.mem_of_getElem? (i := 725) (by decide +kernel), (by decide +kernel)⟩
theorem we725 {c1 : Cond} : (.laysFinal "RollingBallsModel" "RollingBallsModel" "tips" "[I" : Cond) ∈ c1 :: gT := List.mem_cons_of_mem _ wd725
theorem wd727 : (.laysFinal "RollingBallsModel" "RollingBallsModel" "wanted" "[Z" : Cond) ∈ gT := List.mem_filter.mpr ⟨List.mem_of_getElem? (i := 727) (by decide +kernel), (by decide +kernel)⟩
theorem we727 {c1 : Cond} : (.laysFinal "RollingBallsModel" "RollingBallsModel" "wanted" "[Z" : Cond) ∈ c1 :: gT := List.mem_cons_of_mem _ wd727
theorem wd729 : (.lays "RollingBallsModel" "RollingBallsModel" "may" "I" : Cond) ∈ gT := List.mem_filter.mpr ⟨List.mem_of_getElem? (i := 729) (by decide +kernel), (by decide +kernel)⟩
theorem we729 {c1 : Cond} : (.lays "RollingBallsModel" "RollingBallsModel" "may" "I" : Cond) ∈ c1 :: gT := List.mem_cons_of_mem _ wd729
theorem wd731 : (.laysFinal "RollingBallsModel" "RollingBallsModel" "mayPoint" "[I" : Cond) ∈ gT := List.mem_filter.mpr ⟨List.mem_of_getElem? (i := 731) (by decide +kernel), (by decide +kernel)⟩
theorem we731 {c1 : Cond} : (.laysFinal "RollingBallsModel" "RollingBallsModel" "mayPoint" "[I" : Cond) ∈ c1 :: gT := List.mem_cons_of_mem _ wd731
theorem wd733 : (.laysFinal "RollingBallsModel" "RollingBallsModel" "mayLength" "[I" : Cond) ∈ gT := List.mem_filter.mpr ⟨List.mem_of_getElem? (i := 733) (by decide +kernel), (by decide +kernel)⟩
theorem we733 {c1 : Cond} : (.laysFinal "RollingBallsModel" "RollingBallsModel" "mayLength" "[I" : Cond) ∈ c1 :: gT := List.mem_cons_of_mem _ wd733
theorem wd735 : (.laysFinal "RollingBallsModel" "RollingBallsModel" "whole" "[I" : Cond) ∈ gT := List.mem_filter.mpr ⟨List.mem_of_getElem? (i := 735) (by decide +kernel), (by decide +kernel)⟩
theorem we735 {c1 : Cond} : (.laysFinal "RollingBallsModel" "RollingBallsModel" "whole" "[I" : Cond) ∈ c1 :: gT := List.mem_cons_of_mem _ wd735
theorem wd737 : (.laysFinal "RollingBallsModel" "RollingBallsModel" "square" "[I" : Cond) ∈ gT := List.mem_filter.mpr ⟨List.mem_of_getElem? (i := 737) (by decide +kernel), (by decide +kernel)⟩
theorem we737 {c1 : Cond} : (.laysFinal "RollingBallsModel" "RollingBallsModel" "square" "[I" : Cond) ∈ c1 :: gT := List.mem_cons_of_mem _ wd737
theorem wd739 : (.laysFinal "RollingBallsModel" "RollingBallsModel" "hits" "[I" : Cond) ∈ gT := List.mem_filter.mpr ⟨List.mem_of_getElem? (i := 739) (by decide +kernel), (by decide +kernel)⟩
theorem we739 {c1 : Cond} : (.laysFinal "RollingBallsModel" "RollingBallsModel" "hits" "[I" : Cond) ∈ c1 :: gT := List.mem_cons_of_mem _ wd739
theorem wd741 : (.laysFinal "RollingBallsModel" "RollingBallsModel" "wasSafe" "[Z" : Cond) ∈ gT := List.mem_filter.mpr ⟨List.mem_of_getElem? (i := 741) (by decide +kernel), (by decide +kernel)⟩
theorem we741 {c1 : Cond} : (.laysFinal "RollingBallsModel" "RollingBallsModel" "wasSafe" "[Z" : Cond) ∈ c1 :: gT := List.mem_cons_of_mem _ wd741
theorem wd744 : (.methodLink "RollingBallsLaw" 64 ⟨"RollingBallsModel", "thrown", "()I"⟩ : Cond) ∈ gT := List.mem_filter.mpr ⟨List.mem_of_getElem? (i := 744) (by decide +kernel), (by decide +kernel)⟩
theorem we744 {c1 : Cond} : (.methodLink "RollingBallsLaw" 64 ⟨"RollingBallsModel", "thrown", "()I"⟩ : Cond) ∈ c1 :: gT := List.mem_cons_of_mem _ wd744
theorem wd745 : (.instanceMethod ⟨"RollingBallsModel", "thrown", "()I"⟩ : Cond) ∈ gT := List.mem_filter.mpr ⟨List.mem_of_getElem? (i := 745) (by decide +kernel), (by decide +kernel)⟩
theorem we745 {c1 : Cond} : (.instanceMethod ⟨"RollingBallsModel", "thrown", "()I"⟩ : Cond) ∈ c1 :: gT := List.mem_cons_of_mem _ wd745
theorem wd746 : (.selects "RollingBallsModel" ⟨"RollingBallsModel", "thrown", "()I"⟩ ⟨"RollingBallsModel", "thrown", "()I"⟩ : Cond) ∈ gT := List.mem_filter.mpr ⟨List.mem_of_getElem? (i := 746) (by decide +kernel), (by decide +kernel)⟩
theorem we746 {c1 : Cond} : (.selects "RollingBallsModel" ⟨"RollingBallsModel", "thrown", "()I"⟩ ⟨"RollingBallsModel", "thrown", "()I"⟩ : Cond) ∈ c1 :: gT := List.mem_cons_of_mem _ wd746
theorem wd747 : (.code ⟨"RollingBallsModel", "thrown", "()I"⟩ prog_8_method_3_code 1 (some .int) : Cond) ∈ gT := List.mem_filter.mpr ⟨List.mem_of_getElem? (i := 747) (by decide +kernel), (by decide +kernel)⟩
theorem we747 {c1 : Cond} : (.code ⟨"RollingBallsModel", "thrown", "()I"⟩ prog_8_method_3_code 1 (some .int) : Cond) ∈ c1 :: gT := List.mem_cons_of_mem _ wd747
theorem wd748 : (.methodLink "RollingBallsLaw" 63 ⟨"RollingBallsModel", "height", "(III)I"⟩ : Cond) ∈ gT := List.mem_filter.mpr ⟨List.mem_of_getElem? (i := 748) (by decide +kernel), (by decide +kernel)⟩
theorem we748 {c1 : Cond} : (.methodLink "RollingBallsLaw" 63 ⟨"RollingBallsModel", "height", "(III)I"⟩ : Cond) ∈ c1 :: gT := List.mem_cons_of_mem _ wd748
theorem wd749 : (.instanceMethod ⟨"RollingBallsModel", "height", "(III)I"⟩ : Cond) ∈ gT := List.mem_filter.mpr ⟨List.mem_of_getElem? (i := 749) (by decide +kernel), (by decide +kernel)⟩
theorem we749 {c1 : Cond} : (.instanceMethod ⟨"RollingBallsModel", "height", "(III)I"⟩ : Cond) ∈ c1 :: gT := List.mem_cons_of_mem _ wd749
theorem wd750 : (.selects "RollingBallsModel" ⟨"RollingBallsModel", "height", "(III)I"⟩ ⟨"RollingBallsModel", "height", "(III)I"⟩ : Cond) ∈ gT := List.mem_filter.mpr ⟨List.mem_of_getElem? (i := 750) (by decide +kernel), (by decide +kernel)⟩
theorem we750 {c1 : Cond} : (.selects "RollingBallsModel" ⟨"RollingBallsModel", "height", "(III)I"⟩ ⟨"RollingBallsModel", "height", "(III)I"⟩ : Cond) ∈ c1 :: gT := List.mem_cons_of_mem _ wd750
theorem wd751 : (.code ⟨"RollingBallsModel", "height", "(III)I"⟩ prog_8_method_19_code 5 (some .int) : Cond) ∈ gT := List.mem_filter.mpr ⟨List.mem_of_getElem? (i := 751) (by decide +kernel), (by decide +kernel)⟩
theorem we751 {c1 : Cond} : (.code ⟨"RollingBallsModel", "height", "(III)I"⟩ prog_8_method_19_code 5 (some .int) : Cond) ∈ c1 :: gT := List.mem_cons_of_mem _ wd751
theorem wd752 : (.methodLink "RollingBallsModel" 70 ⟨"RollingBallsModel", "isPoint", "(II)Z"⟩ : Cond) ∈ gT := List.mem_filter.mpr ⟨List.mem_of_getElem? (i := 752) (by decide +kernel), (by decide +kernel)⟩
theorem we752 {c1 : Cond} : (.methodLink "RollingBallsModel" 70 ⟨"RollingBallsModel", "isPoint", "(II)Z"⟩ : Cond) ∈ c1 :: gT := List.mem_cons_of_mem _ wd752
theorem wd754 : (.instanceMethod ⟨"RollingBallsModel", "isPoint", "(II)Z"⟩ : Cond) ∈ gT := List.mem_filter.mpr ⟨List.mem_of_getElem? (i := 754) (by decide +kernel), (by decide +kernel)⟩
theorem we754 {c1 : Cond} : (.instanceMethod ⟨"RollingBallsModel", "isPoint", "(II)Z"⟩ : Cond) ∈ c1 :: gT := List.mem_cons_of_mem _ wd754
theorem wd755 : (.code ⟨"RollingBallsModel", "isPoint", "(II)Z"⟩ prog_8_method_5_code 3 (some .boolean) : Cond) ∈ gT := List.mem_filter.mpr ⟨List.mem_of_getElem? (i := 755) (by decide +kernel), (by decide +kernel)⟩
theorem we755 {c1 : Cond} : (.code ⟨"RollingBallsModel", "isPoint", "(II)Z"⟩ prog_8_method_5_code 3 (some .boolean) : Cond) ∈ c1 :: gT := List.mem_cons_of_mem _ wd755
theorem wd756 : (.methodLink "RollingBallsModel" 58 ⟨"RollingBallsModel", "in", "(III)Z"⟩ : Cond) ∈ gT := List.mem_filter.mpr ⟨List.mem_of_getElem? (i := 756) (by decide +kernel), (by decide +kernel)⟩
theorem we756 {c1 : Cond} : (.methodLink "RollingBallsModel" 58 ⟨"RollingBallsModel", "in", "(III)Z"⟩ : Cond) ∈ c1 :: gT := List.mem_cons_of_mem _ wd756
theorem wd757 : (.static ⟨"RollingBallsModel", "in", "(III)Z"⟩ : Cond) ∈ gT := List.mem_filter.mpr ⟨List.mem_of_getElem? (i := 757) (by decide +kernel), (by decide +kernel)⟩
theorem we757 {c1 : Cond} : (.static ⟨"RollingBallsModel", "in", "(III)Z"⟩ : Cond) ∈ c1 :: gT := List.mem_cons_of_mem _ wd757
theorem wd758 : (.code ⟨"RollingBallsModel", "in", "(III)Z"⟩ prog_8_method_4_code 3 (some .boolean) : Cond) ∈ gT := List.mem_filter.mpr ⟨List.mem_of_getElem? (i := 758) (by decide +kernel), (by decide +kernel)⟩
theorem we758 {c1 : Cond} : (.code ⟨"RollingBallsModel", "in", "(III)Z"⟩ prog_8_method_4_code 3 (some .boolean) : Cond) ∈ c1 :: gT := List.mem_cons_of_mem _ wd758
theorem wd759 : (.methodLink "RollingBallsModel" 91 ⟨"RollingBallsModel", "spot", "(II)I"⟩ : Cond) ∈ gT := List.mem_filter.mpr ⟨List.mem_of_getElem? (i := 759) (by decide +kernel), (by decide +kernel)⟩
theorem we759 {c1 : Cond} : (.methodLink "RollingBallsModel" 91 ⟨"RollingBallsModel", "spot", "(II)I"⟩ : Cond) ∈ c1 :: gT := List.mem_cons_of_mem _ wd759
theorem wd760 : (.static ⟨"RollingBallsModel", "spot", "(II)I"⟩ : Cond) ∈ gT := List.mem_filter.mpr ⟨List.mem_of_getElem? (i := 760) (by decide +kernel), (by decide +kernel)⟩
theorem we760 {c1 : Cond} : (.static ⟨"RollingBallsModel", "spot", "(II)I"⟩ : Cond) ∈ c1 :: gT := List.mem_cons_of_mem _ wd760
theorem wd761 : (.code ⟨"RollingBallsModel", "spot", "(II)I"⟩ prog_8_method_7_code 2 (some .int) : Cond) ∈ gT := List.mem_filter.mpr ⟨List.mem_of_getElem? (i := 761) (by decide +kernel), (by decide +kernel)⟩
theorem we761 {c1 : Cond} : (.code ⟨"RollingBallsModel", "spot", "(II)I"⟩ prog_8_method_7_code 2 (some .int) : Cond) ∈ c1 :: gT := List.mem_cons_of_mem _ wd761
theorem wd762 : (.methodLink "RollingBallsLaw" 70 ⟨"RollingBallsModel", "rod", "(III)I"⟩ : Cond) ∈ gT := List.mem_filter.mpr ⟨List.mem_of_getElem? (i := 762) (by decide +kernel), (by decide +kernel)⟩
theorem we762 {c1 : Cond} : (.methodLink "RollingBallsLaw" 70 ⟨"RollingBallsModel", "rod", "(III)I"⟩ : Cond) ∈ c1 :: gT := List.mem_cons_of_mem _ wd762
theorem wd763 : (.instanceMethod ⟨"RollingBallsModel", "rod", "(III)I"⟩ : Cond) ∈ gT := List.mem_filter.mpr ⟨List.mem_of_getElem? (i := 763) (by decide +kernel), (by decide +kernel)⟩
theorem we763 {c1 : Cond} : (.instanceMethod ⟨"RollingBallsModel", "rod", "(III)I"⟩ : Cond) ∈ c1 :: gT := List.mem_cons_of_mem _ wd763
theorem wd764 : (.selects "RollingBallsModel" ⟨"RollingBallsModel", "rod", "(III)I"⟩ ⟨"RollingBallsModel", "rod", "(III)I"⟩ : Cond) ∈ gT := List.mem_filter.mpr ⟨List.mem_of_getElem? (i := 764) (by decide +kernel), (by decide +kernel)⟩
theorem we764 {c1 : Cond} : (.selects "RollingBallsModel" ⟨"RollingBallsModel", "rod", "(III)I"⟩ ⟨"RollingBallsModel", "rod", "(III)I"⟩ : Cond) ∈ c1 :: gT := List.mem_cons_of_mem _ wd764
theorem wd765 : (.code ⟨"RollingBallsModel", "rod", "(III)I"⟩ prog_8_method_20_code 5 (some .int) : Cond) ∈ gT := List.mem_filter.mpr ⟨List.mem_of_getElem? (i := 765) (by decide +kernel), (by decide +kernel)⟩
theorem we765 {c1 : Cond} : (.code ⟨"RollingBallsModel", "rod", "(III)I"⟩ prog_8_method_20_code 5 (some .int) : Cond) ∈ c1 :: gT := List.mem_cons_of_mem _ wd765
theorem wd766 : (.methodLink "RollingBallsLaw" 73 ⟨"RollingBallsModel", "rest", "(III)I"⟩ : Cond) ∈ gT := List.mem_filter.mpr ⟨List.mem_of_getElem? (i := 766) (by decide +kernel), (by decide +kernel)⟩
theorem we766 {c1 : Cond} : (.methodLink "RollingBallsLaw" 73 ⟨"RollingBallsModel", "rest", "(III)I"⟩ : Cond) ∈ c1 :: gT := List.mem_cons_of_mem _ wd766
theorem wd767 : (.instanceMethod ⟨"RollingBallsModel", "rest", "(III)I"⟩ : Cond) ∈ gT := List.mem_filter.mpr ⟨List.mem_of_getElem? (i := 767) (by decide +kernel), (by decide +kernel)⟩
theorem we767 {c1 : Cond} : (.instanceMethod ⟨"RollingBallsModel", "rest", "(III)I"⟩ : Cond) ∈ c1 :: gT := List.mem_cons_of_mem _ wd767
theorem wd768 : (.selects "RollingBallsModel" ⟨"RollingBallsModel", "rest", "(III)I"⟩ ⟨"RollingBallsModel", "rest", "(III)I"⟩ : Cond) ∈ gT := List.mem_filter.mpr ⟨List.mem_of_getElem? (i := 768) (by decide +kernel), (by decide +kernel)⟩
theorem we768 {c1 : Cond} : (.selects "RollingBallsModel" ⟨"RollingBallsModel", "rest", "(III)I"⟩ ⟨"RollingBallsModel", "rest", "(III)I"⟩ : Cond) ∈ c1 :: gT := List.mem_cons_of_mem _ wd768
theorem wd769 : (.code ⟨"RollingBallsModel", "rest", "(III)I"⟩ prog_8_method_21_code 8 (some .int) : Cond) ∈ gT := List.mem_filter.mpr ⟨List.mem_of_getElem? (i := 769) (by decide +kernel), (by decide +kernel)⟩
theorem we769 {c1 : Cond} : (.code ⟨"RollingBallsModel", "rest", "(III)I"⟩ prog_8_method_21_code 8 (some .int) : Cond) ∈ c1 :: gT := List.mem_cons_of_mem _ wd769
theorem wd770 : (.methodLink "RollingBallsModel" 94 ⟨"RollingBallsModel", "isPlace", "(II)Z"⟩ : Cond) ∈ gT := List.mem_filter.mpr ⟨List.mem_of_getElem? (i := 770) (by decide +kernel), (by decide +kernel)⟩
theorem we770 {c1 : Cond} : (.methodLink "RollingBallsModel" 94 ⟨"RollingBallsModel", "isPlace", "(II)Z"⟩ : Cond) ∈ c1 :: gT := List.mem_cons_of_mem _ wd770
theorem wd772 : (.instanceMethod ⟨"RollingBallsModel", "isPlace", "(II)Z"⟩ : Cond) ∈ gT := List.mem_filter.mpr ⟨List.mem_of_getElem? (i := 772) (by decide +kernel), (by decide +kernel)⟩
theorem we772 {c1 : Cond} : (.instanceMethod ⟨"RollingBallsModel", "isPlace", "(II)Z"⟩ : Cond) ∈ c1 :: gT := List.mem_cons_of_mem _ wd772
theorem wd773 : (.code ⟨"RollingBallsModel", "isPlace", "(II)Z"⟩ prog_8_method_6_code 3 (some .boolean) : Cond) ∈ gT := List.mem_filter.mpr ⟨List.mem_of_getElem? (i := 773) (by decide +kernel), (by decide +kernel)⟩
theorem we773 {c1 : Cond} : (.code ⟨"RollingBallsModel", "isPlace", "(II)Z"⟩ prog_8_method_6_code 3 (some .boolean) : Cond) ∈ c1 :: gT := List.mem_cons_of_mem _ wd773
theorem wd774 : (.methodLink "RollingBallsModel" 97 ⟨"RollingBallsModel", "stand", "()V"⟩ : Cond) ∈ gT := List.mem_filter.mpr ⟨List.mem_of_getElem? (i := 774) (by decide +kernel), (by decide +kernel)⟩
theorem we774 {c1 : Cond} : (.methodLink "RollingBallsModel" 97 ⟨"RollingBallsModel", "stand", "()V"⟩ : Cond) ∈ c1 :: gT := List.mem_cons_of_mem _ wd774
theorem wd776 : (.instanceMethod ⟨"RollingBallsModel", "stand", "()V"⟩ : Cond) ∈ gT := List.mem_filter.mpr ⟨List.mem_of_getElem? (i := 776) (by decide +kernel), (by decide +kernel)⟩
theorem we776 {c1 : Cond} : (.instanceMethod ⟨"RollingBallsModel", "stand", "()V"⟩ : Cond) ∈ c1 :: gT := List.mem_cons_of_mem _ wd776
theorem wd777 : (.code ⟨"RollingBallsModel", "stand", "()V"⟩ prog_8_method_17_code 2 none : Cond) ∈ gT := List.mem_filter.mpr ⟨List.mem_of_getElem? (i := 777) (by decide +kernel), (by decide +kernel)⟩
theorem we777 {c1 : Cond} : (.code ⟨"RollingBallsModel", "stand", "()V"⟩ prog_8_method_17_code 2 none : Cond) ∈ c1 :: gT := List.mem_cons_of_mem _ wd777
theorem wd778 : (.methodLink "RollingBallsModel" 84 ⟨"RollingBallsModel", "restAt", "(II)V"⟩ : Cond) ∈ gT := List.mem_filter.mpr ⟨List.mem_of_getElem? (i := 778) (by decide +kernel), (by decide +kernel)⟩
theorem we778 {c1 : Cond} : (.methodLink "RollingBallsModel" 84 ⟨"RollingBallsModel", "restAt", "(II)V"⟩ : Cond) ∈ c1 :: gT := List.mem_cons_of_mem _ wd778
theorem wd780 : (.instanceMethod ⟨"RollingBallsModel", "restAt", "(II)V"⟩ : Cond) ∈ gT := List.mem_filter.mpr ⟨List.mem_of_getElem? (i := 780) (by decide +kernel), (by decide +kernel)⟩
theorem we780 {c1 : Cond} : (.instanceMethod ⟨"RollingBallsModel", "restAt", "(II)V"⟩ : Cond) ∈ c1 :: gT := List.mem_cons_of_mem _ wd780
theorem wd781 : (.code ⟨"RollingBallsModel", "restAt", "(II)V"⟩ prog_8_method_15_code 6 none : Cond) ∈ gT := List.mem_filter.mpr ⟨List.mem_of_getElem? (i := 781) (by decide +kernel), (by decide +kernel)⟩
theorem we781 {c1 : Cond} : (.code ⟨"RollingBallsModel", "restAt", "(II)V"⟩ prog_8_method_15_code 6 none : Cond) ∈ c1 :: gT := List.mem_cons_of_mem _ wd781
theorem wd782 : (.methodLink "RollingBallsModel" 78 ⟨"RollingBallsModel", "placeAt", "(II)I"⟩ : Cond) ∈ gT := List.mem_filter.mpr ⟨List.mem_of_getElem? (i := 782) (by decide +kernel), (by decide +kernel)⟩
theorem we782 {c1 : Cond} : (.methodLink "RollingBallsModel" 78 ⟨"RollingBallsModel", "placeAt", "(II)I"⟩ : Cond) ∈ c1 :: gT := List.mem_cons_of_mem _ wd782
theorem wd784 : (.instanceMethod ⟨"RollingBallsModel", "placeAt", "(II)I"⟩ : Cond) ∈ gT := List.mem_filter.mpr ⟨List.mem_of_getElem? (i := 784) (by decide +kernel), (by decide +kernel)⟩
theorem we784 {c1 : Cond} : (.instanceMethod ⟨"RollingBallsModel", "placeAt", "(II)I"⟩ : Cond) ∈ c1 :: gT := List.mem_cons_of_mem _ wd784
theorem wd785 : (.code ⟨"RollingBallsModel", "placeAt", "(II)I"⟩ prog_8_method_10_code 3 (some .int) : Cond) ∈ gT := List.mem_filter.mpr ⟨List.mem_of_getElem? (i := 785) (by decide +kernel), (by decide +kernel)⟩
theorem we785 {c1 : Cond} : (.code ⟨"RollingBallsModel", "placeAt", "(II)I"⟩ prog_8_method_10_code 3 (some .int) : Cond) ∈ c1 :: gT := List.mem_cons_of_mem _ wd785
theorem wd786 : (.methodLink "RollingBallsModel" 62 ⟨"RollingBallsModel", "across", "()I"⟩ : Cond) ∈ gT := List.mem_filter.mpr ⟨List.mem_of_getElem? (i := 786) (by decide +kernel), (by decide +kernel)⟩
theorem we786 {c1 : Cond} : (.methodLink "RollingBallsModel" 62 ⟨"RollingBallsModel", "across", "()I"⟩ : Cond) ∈ c1 :: gT := List.mem_cons_of_mem _ wd786
theorem wd788 : (.instanceMethod ⟨"RollingBallsModel", "across", "()I"⟩ : Cond) ∈ gT := List.mem_filter.mpr ⟨List.mem_of_getElem? (i := 788) (by decide +kernel), (by decide +kernel)⟩
theorem we788 {c1 : Cond} : (.instanceMethod ⟨"RollingBallsModel", "across", "()I"⟩ : Cond) ∈ c1 :: gT := List.mem_cons_of_mem _ wd788
theorem wd789 : (.code ⟨"RollingBallsModel", "across", "()I"⟩ prog_8_method_8_code 1 (some .int) : Cond) ∈ gT := List.mem_filter.mpr ⟨List.mem_of_getElem? (i := 789) (by decide +kernel), (by decide +kernel)⟩
theorem we789 {c1 : Cond} : (.code ⟨"RollingBallsModel", "across", "()I"⟩ prog_8_method_8_code 1 (some .int) : Cond) ∈ c1 :: gT := List.mem_cons_of_mem _ wd789
theorem wd790 : (.methodLink "RollingBallsModel" 81 ⟨"RollingBallsModel", "isNear", "(III)Z"⟩ : Cond) ∈ gT := List.mem_filter.mpr ⟨List.mem_of_getElem? (i := 790) (by decide +kernel), (by decide +kernel)⟩
theorem we790 {c1 : Cond} : (.methodLink "RollingBallsModel" 81 ⟨"RollingBallsModel", "isNear", "(III)Z"⟩ : Cond) ∈ c1 :: gT := List.mem_cons_of_mem _ wd790
theorem wd792 : (.instanceMethod ⟨"RollingBallsModel", "isNear", "(III)Z"⟩ : Cond) ∈ gT := List.mem_filter.mpr ⟨List.mem_of_getElem? (i := 792) (by decide +kernel), (by decide +kernel)⟩
theorem we792 {c1 : Cond} : (.instanceMethod ⟨"RollingBallsModel", "isNear", "(III)Z"⟩ : Cond) ∈ c1 :: gT := List.mem_cons_of_mem _ wd792
theorem wd793 : (.code ⟨"RollingBallsModel", "isNear", "(III)Z"⟩ prog_8_method_14_code 4 (some .boolean) : Cond) ∈ gT := List.mem_filter.mpr ⟨List.mem_of_getElem? (i := 793) (by decide +kernel), (by decide +kernel)⟩
theorem we793 {c1 : Cond} : (.code ⟨"RollingBallsModel", "isNear", "(III)Z"⟩ prog_8_method_14_code 4 (some .boolean) : Cond) ∈ c1 :: gT := List.mem_cons_of_mem _ wd793
theorem wd794 : (.methodLink "RollingBallsModel" 74 ⟨"RollingBallsModel", "distance", "(III)I"⟩ : Cond) ∈ gT := List.mem_filter.mpr ⟨List.mem_of_getElem? (i := 794) (by decide +kernel), (by decide +kernel)⟩
theorem we794 {c1 : Cond} : (.methodLink "RollingBallsModel" 74 ⟨"RollingBallsModel", "distance", "(III)I"⟩ : Cond) ∈ c1 :: gT := List.mem_cons_of_mem _ wd794
theorem wd796 : (.instanceMethod ⟨"RollingBallsModel", "distance", "(III)I"⟩ : Cond) ∈ gT := List.mem_filter.mpr ⟨List.mem_of_getElem? (i := 796) (by decide +kernel), (by decide +kernel)⟩
theorem we796 {c1 : Cond} : (.instanceMethod ⟨"RollingBallsModel", "distance", "(III)I"⟩ : Cond) ∈ c1 :: gT := List.mem_cons_of_mem _ wd796
theorem wd797 : (.code ⟨"RollingBallsModel", "distance", "(III)I"⟩ prog_8_method_13_code 6 (some .int) : Cond) ∈ gT := List.mem_filter.mpr ⟨List.mem_of_getElem? (i := 797) (by decide +kernel), (by decide +kernel)⟩
theorem we797 {c1 : Cond} : (.code ⟨"RollingBallsModel", "distance", "(III)I"⟩ prog_8_method_13_code 6 (some .int) : Cond) ∈ c1 :: gT := List.mem_cons_of_mem _ wd797
theorem wd798 : (.methodLink "RollingBallsModel" 66 ⟨"RollingBallsModel", "compare", "(IIII)I"⟩ : Cond) ∈ gT := List.mem_filter.mpr ⟨List.mem_of_getElem? (i := 798) (by decide +kernel), (by decide +kernel)⟩
theorem we798 {c1 : Cond} : (.methodLink "RollingBallsModel" 66 ⟨"RollingBallsModel", "compare", "(IIII)I"⟩ : Cond) ∈ c1 :: gT := List.mem_cons_of_mem _ wd798
theorem wd799 : (.static ⟨"RollingBallsModel", "compare", "(IIII)I"⟩ : Cond) ∈ gT := List.mem_filter.mpr ⟨List.mem_of_getElem? (i := 799) (by decide +kernel), (by decide +kernel)⟩
theorem we799 {c1 : Cond} : (.static ⟨"RollingBallsModel", "compare", "(IIII)I"⟩ : Cond) ∈ c1 :: gT := List.mem_cons_of_mem _ wd799
theorem wd800 : (.code ⟨"RollingBallsModel", "compare", "(IIII)I"⟩ prog_8_method_11_code 8 (some .int) : Cond) ∈ gT := List.mem_filter.mpr ⟨List.mem_of_getElem? (i := 800) (by decide +kernel), (by decide +kernel)⟩
theorem we800 {c1 : Cond} : (.code ⟨"RollingBallsModel", "compare", "(IIII)I"⟩ prog_8_method_11_code 8 (some .int) : Cond) ∈ c1 :: gT := List.mem_cons_of_mem _ wd800
theorem wd801 : (.methodLink "RollingBallsModel" 100 ⟨"RollingBallsModel", "rootOf", "(I)I"⟩ : Cond) ∈ gT := List.mem_filter.mpr ⟨List.mem_of_getElem? (i := 801) (by decide +kernel), (by decide +kernel)⟩
theorem we801 {c1 : Cond} : (.methodLink "RollingBallsModel" 100 ⟨"RollingBallsModel", "rootOf", "(I)I"⟩ : Cond) ∈ c1 :: gT := List.mem_cons_of_mem _ wd801
theorem wd802 : (.static ⟨"RollingBallsModel", "rootOf", "(I)I"⟩ : Cond) ∈ gT := List.mem_filter.mpr ⟨List.mem_of_getElem? (i := 802) (by decide +kernel), (by decide +kernel)⟩
theorem we802 {c1 : Cond} : (.static ⟨"RollingBallsModel", "rootOf", "(I)I"⟩ : Cond) ∈ c1 :: gT := List.mem_cons_of_mem _ wd802
theorem wd803 : (.code ⟨"RollingBallsModel", "rootOf", "(I)I"⟩ prog_8_method_12_code 2 (some .int) : Cond) ∈ gT := List.mem_filter.mpr ⟨List.mem_of_getElem? (i := 803) (by decide +kernel), (by decide +kernel)⟩
theorem we803 {c1 : Cond} : (.code ⟨"RollingBallsModel", "rootOf", "(I)I"⟩ prog_8_method_12_code 2 (some .int) : Cond) ∈ c1 :: gT := List.mem_cons_of_mem _ wd803
theorem wd804 : (.methodLink "RollingBallsModel" 88 ⟨"RollingBallsModel", "isTouched", "(III)Z"⟩ : Cond) ∈ gT := List.mem_filter.mpr ⟨List.mem_of_getElem? (i := 804) (by decide +kernel), (by decide +kernel)⟩
theorem we804 {c1 : Cond} : (.methodLink "RollingBallsModel" 88 ⟨"RollingBallsModel", "isTouched", "(III)Z"⟩ : Cond) ∈ c1 :: gT := List.mem_cons_of_mem _ wd804
theorem wd806 : (.instanceMethod ⟨"RollingBallsModel", "isTouched", "(III)Z"⟩ : Cond) ∈ gT := List.mem_filter.mpr ⟨List.mem_of_getElem? (i := 806) (by decide +kernel), (by decide +kernel)⟩
theorem we806 {c1 : Cond} : (.instanceMethod ⟨"RollingBallsModel", "isTouched", "(III)Z"⟩ : Cond) ∈ c1 :: gT := List.mem_cons_of_mem _ wd806
theorem wd807 : (.code ⟨"RollingBallsModel", "isTouched", "(III)Z"⟩ prog_8_method_16_code 5 (some .boolean) : Cond) ∈ gT := List.mem_filter.mpr ⟨List.mem_of_getElem? (i := 807) (by decide +kernel), (by decide +kernel)⟩
theorem we807 {c1 : Cond} : (.code ⟨"RollingBallsModel", "isTouched", "(III)Z"⟩ prog_8_method_16_code 5 (some .boolean) : Cond) ∈ c1 :: gT := List.mem_cons_of_mem _ wd807
theorem wd808 : (.methodLink "RollingBallsLaw" 76 ⟨"RollingBallsModel", "touched", "(III)I"⟩ : Cond) ∈ gT := List.mem_filter.mpr ⟨List.mem_of_getElem? (i := 808) (by decide +kernel), (by decide +kernel)⟩
theorem we808 {c1 : Cond} : (.methodLink "RollingBallsLaw" 76 ⟨"RollingBallsModel", "touched", "(III)I"⟩ : Cond) ∈ c1 :: gT := List.mem_cons_of_mem _ wd808
theorem wd809 : (.instanceMethod ⟨"RollingBallsModel", "touched", "(III)I"⟩ : Cond) ∈ gT := List.mem_filter.mpr ⟨List.mem_of_getElem? (i := 809) (by decide +kernel), (by decide +kernel)⟩
theorem we809 {c1 : Cond} : (.instanceMethod ⟨"RollingBallsModel", "touched", "(III)I"⟩ : Cond) ∈ c1 :: gT := List.mem_cons_of_mem _ wd809
theorem wd810 : (.selects "RollingBallsModel" ⟨"RollingBallsModel", "touched", "(III)I"⟩ ⟨"RollingBallsModel", "touched", "(III)I"⟩ : Cond) ∈ gT := List.mem_filter.mpr ⟨List.mem_of_getElem? (i := 810) (by decide +kernel), (by decide +kernel)⟩
theorem we810 {c1 : Cond} : (.selects "RollingBallsModel" ⟨"RollingBallsModel", "touched", "(III)I"⟩ ⟨"RollingBallsModel", "touched", "(III)I"⟩ : Cond) ∈ c1 :: gT := List.mem_cons_of_mem _ wd810
theorem wd811 : (.code ⟨"RollingBallsModel", "touched", "(III)I"⟩ prog_8_method_22_code 6 (some .int) : Cond) ∈ gT := List.mem_filter.mpr ⟨List.mem_of_getElem? (i := 811) (by decide +kernel), (by decide +kernel)⟩
theorem we811 {c1 : Cond} : (.code ⟨"RollingBallsModel", "touched", "(III)I"⟩ prog_8_method_22_code 6 (some .int) : Cond) ∈ c1 :: gT := List.mem_cons_of_mem _ wd811
theorem wd812 : (.methodLink "RollingBallsLaw" 80 ⟨"RollingBallsModel", "higher", "(IIII)I"⟩ : Cond) ∈ gT := List.mem_filter.mpr ⟨List.mem_of_getElem? (i := 812) (by decide +kernel), (by decide +kernel)⟩
theorem we812 {c1 : Cond} : (.methodLink "RollingBallsLaw" 80 ⟨"RollingBallsModel", "higher", "(IIII)I"⟩ : Cond) ∈ c1 :: gT := List.mem_cons_of_mem _ wd812
theorem wd813 : (.instanceMethod ⟨"RollingBallsModel", "higher", "(IIII)I"⟩ : Cond) ∈ gT := List.mem_filter.mpr ⟨List.mem_of_getElem? (i := 813) (by decide +kernel), (by decide +kernel)⟩
theorem we813 {c1 : Cond} : (.instanceMethod ⟨"RollingBallsModel", "higher", "(IIII)I"⟩ : Cond) ∈ c1 :: gT := List.mem_cons_of_mem _ wd813
theorem wd814 : (.selects "RollingBallsModel" ⟨"RollingBallsModel", "higher", "(IIII)I"⟩ ⟨"RollingBallsModel", "higher", "(IIII)I"⟩ : Cond) ∈ gT := List.mem_filter.mpr ⟨List.mem_of_getElem? (i := 814) (by decide +kernel), (by decide +kernel)⟩
theorem we814 {c1 : Cond} : (.selects "RollingBallsModel" ⟨"RollingBallsModel", "higher", "(IIII)I"⟩ ⟨"RollingBallsModel", "higher", "(IIII)I"⟩ : Cond) ∈ c1 :: gT := List.mem_cons_of_mem _ wd814
theorem wd815 : (.code ⟨"RollingBallsModel", "higher", "(IIII)I"⟩ prog_8_method_23_code 7 (some .int) : Cond) ∈ gT := List.mem_filter.mpr ⟨List.mem_of_getElem? (i := 815) (by decide +kernel), (by decide +kernel)⟩
theorem we815 {c1 : Cond} : (.code ⟨"RollingBallsModel", "higher", "(IIII)I"⟩ prog_8_method_23_code 7 (some .int) : Cond) ∈ c1 :: gT := List.mem_cons_of_mem _ wd815
theorem wd816 : (.methodLink "RollingBallsLaw" 84 ⟨"RollingBallsModel", "tops", "()I"⟩ : Cond) ∈ gT := List.mem_filter.mpr ⟨List.mem_of_getElem? (i := 816) (by decide +kernel), (by decide +kernel)⟩
theorem we816 {c1 : Cond} : (.methodLink "RollingBallsLaw" 84 ⟨"RollingBallsModel", "tops", "()I"⟩ : Cond) ∈ c1 :: gT := List.mem_cons_of_mem _ wd816
theorem wd817 : (.instanceMethod ⟨"RollingBallsModel", "tops", "()I"⟩ : Cond) ∈ gT := List.mem_filter.mpr ⟨List.mem_of_getElem? (i := 817) (by decide +kernel), (by decide +kernel)⟩
theorem we817 {c1 : Cond} : (.instanceMethod ⟨"RollingBallsModel", "tops", "()I"⟩ : Cond) ∈ c1 :: gT := List.mem_cons_of_mem _ wd817
theorem wd818 : (.selects "RollingBallsModel" ⟨"RollingBallsModel", "tops", "()I"⟩ ⟨"RollingBallsModel", "tops", "()I"⟩ : Cond) ∈ gT := List.mem_filter.mpr ⟨List.mem_of_getElem? (i := 818) (by decide +kernel), (by decide +kernel)⟩
theorem we818 {c1 : Cond} : (.selects "RollingBallsModel" ⟨"RollingBallsModel", "tops", "()I"⟩ ⟨"RollingBallsModel", "tops", "()I"⟩ : Cond) ∈ c1 :: gT := List.mem_cons_of_mem _ wd818
theorem wd819 : (.code ⟨"RollingBallsModel", "tops", "()I"⟩ prog_8_method_24_code 5 (some .int) : Cond) ∈ gT := List.mem_filter.mpr ⟨List.mem_of_getElem? (i := 819) (by decide +kernel), (by decide +kernel)⟩
theorem we819 {c1 : Cond} : (.code ⟨"RollingBallsModel", "tops", "()I"⟩ prog_8_method_24_code 5 (some .int) : Cond) ∈ c1 :: gT := List.mem_cons_of_mem _ wd819
theorem wd820 : (.methodLink "RollingBallsModel" 104 ⟨"RollingBallsModel", "roll", "()V"⟩ : Cond) ∈ gT := List.mem_filter.mpr ⟨List.mem_of_getElem? (i := 820) (by decide +kernel), (by decide +kernel)⟩
theorem we820 {c1 : Cond} : (.methodLink "RollingBallsModel" 104 ⟨"RollingBallsModel", "roll", "()V"⟩ : Cond) ∈ c1 :: gT := List.mem_cons_of_mem _ wd820
theorem wd822 : (.instanceMethod ⟨"RollingBallsModel", "roll", "()V"⟩ : Cond) ∈ gT := List.mem_filter.mpr ⟨List.mem_of_getElem? (i := 822) (by decide +kernel), (by decide +kernel)⟩
theorem we822 {c1 : Cond} : (.instanceMethod ⟨"RollingBallsModel", "roll", "()V"⟩ : Cond) ∈ c1 :: gT := List.mem_cons_of_mem _ wd822
theorem wd823 : (.code ⟨"RollingBallsModel", "roll", "()V"⟩ prog_8_method_18_code 4 none : Cond) ∈ gT := List.mem_filter.mpr ⟨List.mem_of_getElem? (i := 823) (by decide +kernel), (by decide +kernel)⟩
theorem we823 {c1 : Cond} : (.code ⟨"RollingBallsModel", "roll", "()V"⟩ prog_8_method_18_code 4 none : Cond) ∈ c1 :: gT := List.mem_cons_of_mem _ wd823
theorem wd824 : (.methodLink "RollingBallsModel" 107 ⟨"RollingBallsModel", "places", "()I"⟩ : Cond) ∈ gT := List.mem_filter.mpr ⟨List.mem_of_getElem? (i := 824) (by decide +kernel), (by decide +kernel)⟩
theorem we824 {c1 : Cond} : (.methodLink "RollingBallsModel" 107 ⟨"RollingBallsModel", "places", "()I"⟩ : Cond) ∈ c1 :: gT := List.mem_cons_of_mem _ wd824
theorem wd826 : (.instanceMethod ⟨"RollingBallsModel", "places", "()I"⟩ : Cond) ∈ gT := List.mem_filter.mpr ⟨List.mem_of_getElem? (i := 826) (by decide +kernel), (by decide +kernel)⟩
theorem we826 {c1 : Cond} : (.instanceMethod ⟨"RollingBallsModel", "places", "()I"⟩ : Cond) ∈ c1 :: gT := List.mem_cons_of_mem _ wd826
theorem wd827 : (.code ⟨"RollingBallsModel", "places", "()I"⟩ prog_8_method_9_code 1 (some .int) : Cond) ∈ gT := List.mem_filter.mpr ⟨List.mem_of_getElem? (i := 827) (by decide +kernel), (by decide +kernel)⟩
theorem we827 {c1 : Cond} : (.code ⟨"RollingBallsModel", "places", "()I"⟩ prog_8_method_9_code 1 (some .int) : Cond) ∈ c1 :: gT := List.mem_cons_of_mem _ wd827
theorem wd828 : (.methodLink "RollingBallsLaw" 88 ⟨"RollingBallsModel", "hits", "(II)I"⟩ : Cond) ∈ gT := List.mem_filter.mpr ⟨List.mem_of_getElem? (i := 828) (by decide +kernel), (by decide +kernel)⟩
theorem we828 {c1 : Cond} : (.methodLink "RollingBallsLaw" 88 ⟨"RollingBallsModel", "hits", "(II)I"⟩ : Cond) ∈ c1 :: gT := List.mem_cons_of_mem _ wd828
theorem wd829 : (.instanceMethod ⟨"RollingBallsModel", "hits", "(II)I"⟩ : Cond) ∈ gT := List.mem_filter.mpr ⟨List.mem_of_getElem? (i := 829) (by decide +kernel), (by decide +kernel)⟩
theorem we829 {c1 : Cond} : (.instanceMethod ⟨"RollingBallsModel", "hits", "(II)I"⟩ : Cond) ∈ c1 :: gT := List.mem_cons_of_mem _ wd829
theorem wd830 : (.selects "RollingBallsModel" ⟨"RollingBallsModel", "hits", "(II)I"⟩ ⟨"RollingBallsModel", "hits", "(II)I"⟩ : Cond) ∈ gT := List.mem_filter.mpr ⟨List.mem_of_getElem? (i := 830) (by decide +kernel), (by decide +kernel)⟩
theorem we830 {c1 : Cond} : (.selects "RollingBallsModel" ⟨"RollingBallsModel", "hits", "(II)I"⟩ ⟨"RollingBallsModel", "hits", "(II)I"⟩ : Cond) ∈ c1 :: gT := List.mem_cons_of_mem _ wd830
theorem wd831 : (.code ⟨"RollingBallsModel", "hits", "(II)I"⟩ prog_8_method_25_code 3 (some .int) : Cond) ∈ gT := List.mem_filter.mpr ⟨List.mem_of_getElem? (i := 831) (by decide +kernel), (by decide +kernel)⟩
theorem we831 {c1 : Cond} : (.code ⟨"RollingBallsModel", "hits", "(II)I"⟩ prog_8_method_25_code 3 (some .int) : Cond) ∈ c1 :: gT := List.mem_cons_of_mem _ wd831
theorem wd832 : (.methodLink "RollingBallsLaw" 92 ⟨"RollingBallsModel", "safe", "(I)I"⟩ : Cond) ∈ gT := List.mem_filter.mpr ⟨List.mem_of_getElem? (i := 832) (by decide +kernel), (by decide +kernel)⟩
theorem we832 {c1 : Cond} : (.methodLink "RollingBallsLaw" 92 ⟨"RollingBallsModel", "safe", "(I)I"⟩ : Cond) ∈ c1 :: gT := List.mem_cons_of_mem _ wd832
theorem wd833 : (.instanceMethod ⟨"RollingBallsModel", "safe", "(I)I"⟩ : Cond) ∈ gT := List.mem_filter.mpr ⟨List.mem_of_getElem? (i := 833) (by decide +kernel), (by decide +kernel)⟩
theorem we833 {c1 : Cond} : (.instanceMethod ⟨"RollingBallsModel", "safe", "(I)I"⟩ : Cond) ∈ c1 :: gT := List.mem_cons_of_mem _ wd833
theorem wd834 : (.selects "RollingBallsModel" ⟨"RollingBallsModel", "safe", "(I)I"⟩ ⟨"RollingBallsModel", "safe", "(I)I"⟩ : Cond) ∈ gT := List.mem_filter.mpr ⟨List.mem_of_getElem? (i := 834) (by decide +kernel), (by decide +kernel)⟩
theorem we834 {c1 : Cond} : (.selects "RollingBallsModel" ⟨"RollingBallsModel", "safe", "(I)I"⟩ ⟨"RollingBallsModel", "safe", "(I)I"⟩ : Cond) ∈ c1 :: gT := List.mem_cons_of_mem _ wd834
theorem wd835 : (.code ⟨"RollingBallsModel", "safe", "(I)I"⟩ prog_8_method_27_code 4 (some .int) : Cond) ∈ gT := List.mem_filter.mpr ⟨List.mem_of_getElem? (i := 835) (by decide +kernel), (by decide +kernel)⟩
theorem we835 {c1 : Cond} : (.code ⟨"RollingBallsModel", "safe", "(I)I"⟩ prog_8_method_27_code 4 (some .int) : Cond) ∈ c1 :: gT := List.mem_cons_of_mem _ wd835
theorem wd836 : (.methodLink "RollingBallsModel" 110 ⟨"RollingBallsModel", "isSafe", "(I)Z"⟩ : Cond) ∈ gT := List.mem_filter.mpr ⟨List.mem_of_getElem? (i := 836) (by decide +kernel), (by decide +kernel)⟩
theorem we836 {c1 : Cond} : (.methodLink "RollingBallsModel" 110 ⟨"RollingBallsModel", "isSafe", "(I)Z"⟩ : Cond) ∈ c1 :: gT := List.mem_cons_of_mem _ wd836
theorem wd838 : (.instanceMethod ⟨"RollingBallsModel", "isSafe", "(I)Z"⟩ : Cond) ∈ gT := List.mem_filter.mpr ⟨List.mem_of_getElem? (i := 838) (by decide +kernel), (by decide +kernel)⟩
theorem we838 {c1 : Cond} : (.instanceMethod ⟨"RollingBallsModel", "isSafe", "(I)Z"⟩ : Cond) ∈ c1 :: gT := List.mem_cons_of_mem _ wd838
theorem wd839 : (.code ⟨"RollingBallsModel", "isSafe", "(I)Z"⟩ prog_8_method_26_code 2 (some .boolean) : Cond) ∈ gT := List.mem_filter.mpr ⟨List.mem_of_getElem? (i := 839) (by decide +kernel), (by decide +kernel)⟩
theorem we839 {c1 : Cond} : (.code ⟨"RollingBallsModel", "isSafe", "(I)Z"⟩ prog_8_method_26_code 2 (some .boolean) : Cond) ∈ c1 :: gT := List.mem_cons_of_mem _ wd839
theorem wd840 : (.methodLink "RollingBallsLaw" 95 ⟨"RollingBallsModel", "cover", "(II)I"⟩ : Cond) ∈ gT := List.mem_filter.mpr ⟨List.mem_of_getElem? (i := 840) (by decide +kernel), (by decide +kernel)⟩
theorem we840 {c1 : Cond} : (.methodLink "RollingBallsLaw" 95 ⟨"RollingBallsModel", "cover", "(II)I"⟩ : Cond) ∈ c1 :: gT := List.mem_cons_of_mem _ wd840
theorem wd841 : (.instanceMethod ⟨"RollingBallsModel", "cover", "(II)I"⟩ : Cond) ∈ gT := List.mem_filter.mpr ⟨List.mem_of_getElem? (i := 841) (by decide +kernel), (by decide +kernel)⟩
theorem we841 {c1 : Cond} : (.instanceMethod ⟨"RollingBallsModel", "cover", "(II)I"⟩ : Cond) ∈ c1 :: gT := List.mem_cons_of_mem _ wd841
theorem wd842 : (.selects "RollingBallsModel" ⟨"RollingBallsModel", "cover", "(II)I"⟩ ⟨"RollingBallsModel", "cover", "(II)I"⟩ : Cond) ∈ gT := List.mem_filter.mpr ⟨List.mem_of_getElem? (i := 842) (by decide +kernel), (by decide +kernel)⟩
theorem we842 {c1 : Cond} : (.selects "RollingBallsModel" ⟨"RollingBallsModel", "cover", "(II)I"⟩ ⟨"RollingBallsModel", "cover", "(II)I"⟩ : Cond) ∈ c1 :: gT := List.mem_cons_of_mem _ wd842
theorem wd843 : (.code ⟨"RollingBallsModel", "cover", "(II)I"⟩ prog_8_method_28_code 10 (some .int) : Cond) ∈ gT := List.mem_filter.mpr ⟨List.mem_of_getElem? (i := 843) (by decide +kernel), (by decide +kernel)⟩
theorem we843 {c1 : Cond} : (.code ⟨"RollingBallsModel", "cover", "(II)I"⟩ prog_8_method_28_code 10 (some .int) : Cond) ∈ c1 :: gT := List.mem_cons_of_mem _ wd843
theorem wd844 : (.methodLink "RollingBallsLaw" 98 ⟨"RollingBallsModel", "may", "(III)I"⟩ : Cond) ∈ gT := List.mem_filter.mpr ⟨List.mem_of_getElem? (i := 844) (by decide +kernel), (by decide +kernel)⟩
theorem we844 {c1 : Cond} : (.methodLink "RollingBallsLaw" 98 ⟨"RollingBallsModel", "may", "(III)I"⟩ : Cond) ∈ c1 :: gT := List.mem_cons_of_mem _ wd844
theorem wd845 : (.instanceMethod ⟨"RollingBallsModel", "may", "(III)I"⟩ : Cond) ∈ gT := List.mem_filter.mpr ⟨List.mem_of_getElem? (i := 845) (by decide +kernel), (by decide +kernel)⟩
theorem we845 {c1 : Cond} : (.instanceMethod ⟨"RollingBallsModel", "may", "(III)I"⟩ : Cond) ∈ c1 :: gT := List.mem_cons_of_mem _ wd845
theorem wd846 : (.selects "RollingBallsModel" ⟨"RollingBallsModel", "may", "(III)I"⟩ ⟨"RollingBallsModel", "may", "(III)I"⟩ : Cond) ∈ gT := List.mem_filter.mpr ⟨List.mem_of_getElem? (i := 846) (by decide +kernel), (by decide +kernel)⟩
theorem we846 {c1 : Cond} : (.selects "RollingBallsModel" ⟨"RollingBallsModel", "may", "(III)I"⟩ ⟨"RollingBallsModel", "may", "(III)I"⟩ : Cond) ∈ c1 :: gT := List.mem_cons_of_mem _ wd846
theorem wd847 : (.code ⟨"RollingBallsModel", "may", "(III)I"⟩ prog_8_method_29_code 4 (some .int) : Cond) ∈ gT := List.mem_filter.mpr ⟨List.mem_of_getElem? (i := 847) (by decide +kernel), (by decide +kernel)⟩
theorem we847 {c1 : Cond} : (.code ⟨"RollingBallsModel", "may", "(III)I"⟩ prog_8_method_29_code 4 (some .int) : Cond) ∈ c1 :: gT := List.mem_cons_of_mem _ wd847
theorem wd848 : (.methodLink "RollingBallsLaw" 102 ⟨"RollingBallsModel", "forget", "()I"⟩ : Cond) ∈ gT := List.mem_filter.mpr ⟨List.mem_of_getElem? (i := 848) (by decide +kernel), (by decide +kernel)⟩
theorem we848 {c1 : Cond} : (.methodLink "RollingBallsLaw" 102 ⟨"RollingBallsModel", "forget", "()I"⟩ : Cond) ∈ c1 :: gT := List.mem_cons_of_mem _ wd848
theorem wd849 : (.instanceMethod ⟨"RollingBallsModel", "forget", "()I"⟩ : Cond) ∈ gT := List.mem_filter.mpr ⟨List.mem_of_getElem? (i := 849) (by decide +kernel), (by decide +kernel)⟩
theorem we849 {c1 : Cond} : (.instanceMethod ⟨"RollingBallsModel", "forget", "()I"⟩ : Cond) ∈ c1 :: gT := List.mem_cons_of_mem _ wd849
theorem wd850 : (.selects "RollingBallsModel" ⟨"RollingBallsModel", "forget", "()I"⟩ ⟨"RollingBallsModel", "forget", "()I"⟩ : Cond) ∈ gT := List.mem_filter.mpr ⟨List.mem_of_getElem? (i := 850) (by decide +kernel), (by decide +kernel)⟩
theorem we850 {c1 : Cond} : (.selects "RollingBallsModel" ⟨"RollingBallsModel", "forget", "()I"⟩ ⟨"RollingBallsModel", "forget", "()I"⟩ : Cond) ∈ c1 :: gT := List.mem_cons_of_mem _ wd850
theorem wd851 : (.code ⟨"RollingBallsModel", "forget", "()I"⟩ prog_8_method_30_code 2 (some .int) : Cond) ∈ gT := List.mem_filter.mpr ⟨List.mem_of_getElem? (i := 851) (by decide +kernel), (by decide +kernel)⟩
theorem we851 {c1 : Cond} : (.code ⟨"RollingBallsModel", "forget", "()I"⟩ prog_8_method_30_code 2 (some .int) : Cond) ∈ c1 :: gT := List.mem_cons_of_mem _ wd851
theorem wd852 : (.methodLink "RollingBallsLaw" 106 ⟨"RollingBallsModel", "want", "(IIZ)Z"⟩ : Cond) ∈ gT := List.mem_filter.mpr ⟨List.mem_of_getElem? (i := 852) (by decide +kernel), (by decide +kernel)⟩
theorem we852 {c1 : Cond} : (.methodLink "RollingBallsLaw" 106 ⟨"RollingBallsModel", "want", "(IIZ)Z"⟩ : Cond) ∈ c1 :: gT := List.mem_cons_of_mem _ wd852
theorem wd853 : (.instanceMethod ⟨"RollingBallsModel", "want", "(IIZ)Z"⟩ : Cond) ∈ gT := List.mem_filter.mpr ⟨List.mem_of_getElem? (i := 853) (by decide +kernel), (by decide +kernel)⟩
theorem we853 {c1 : Cond} : (.instanceMethod ⟨"RollingBallsModel", "want", "(IIZ)Z"⟩ : Cond) ∈ c1 :: gT := List.mem_cons_of_mem _ wd853
theorem wd854 : (.selects "RollingBallsModel" ⟨"RollingBallsModel", "want", "(IIZ)Z"⟩ ⟨"RollingBallsModel", "want", "(IIZ)Z"⟩ : Cond) ∈ gT := List.mem_filter.mpr ⟨List.mem_of_getElem? (i := 854) (by decide +kernel), (by decide +kernel)⟩
theorem we854 {c1 : Cond} : (.selects "RollingBallsModel" ⟨"RollingBallsModel", "want", "(IIZ)Z"⟩ ⟨"RollingBallsModel", "want", "(IIZ)Z"⟩ : Cond) ∈ c1 :: gT := List.mem_cons_of_mem _ wd854
theorem wd855 : (.code ⟨"RollingBallsModel", "want", "(IIZ)Z"⟩ prog_8_method_31_code 5 (some .boolean) : Cond) ∈ gT := List.mem_filter.mpr ⟨List.mem_of_getElem? (i := 855) (by decide +kernel), (by decide +kernel)⟩
theorem we855 {c1 : Cond} : (.code ⟨"RollingBallsModel", "want", "(IIZ)Z"⟩ prog_8_method_31_code 5 (some .boolean) : Cond) ∈ c1 :: gT := List.mem_cons_of_mem _ wd855
theorem wd856 : (.methodLink "RollingBallsLaw" 110 ⟨"RollingBallsModel", "choose", "()I"⟩ : Cond) ∈ gT := List.mem_filter.mpr ⟨List.mem_of_getElem? (i := 856) (by decide +kernel), (by decide +kernel)⟩
theorem we856 {c1 : Cond} : (.methodLink "RollingBallsLaw" 110 ⟨"RollingBallsModel", "choose", "()I"⟩ : Cond) ∈ c1 :: gT := List.mem_cons_of_mem _ wd856
theorem wd857 : (.instanceMethod ⟨"RollingBallsModel", "choose", "()I"⟩ : Cond) ∈ gT := List.mem_filter.mpr ⟨List.mem_of_getElem? (i := 857) (by decide +kernel), (by decide +kernel)⟩
theorem we857 {c1 : Cond} : (.instanceMethod ⟨"RollingBallsModel", "choose", "()I"⟩ : Cond) ∈ c1 :: gT := List.mem_cons_of_mem _ wd857
theorem wd858 : (.selects "RollingBallsModel" ⟨"RollingBallsModel", "choose", "()I"⟩ ⟨"RollingBallsModel", "choose", "()I"⟩ : Cond) ∈ gT := List.mem_filter.mpr ⟨List.mem_of_getElem? (i := 858) (by decide +kernel), (by decide +kernel)⟩
theorem we858 {c1 : Cond} : (.selects "RollingBallsModel" ⟨"RollingBallsModel", "choose", "()I"⟩ ⟨"RollingBallsModel", "choose", "()I"⟩ : Cond) ∈ c1 :: gT := List.mem_cons_of_mem _ wd858
theorem wd859 : (.code ⟨"RollingBallsModel", "choose", "()I"⟩ prog_8_method_35_code 4 (some .int) : Cond) ∈ gT := List.mem_filter.mpr ⟨List.mem_of_getElem? (i := 859) (by decide +kernel), (by decide +kernel)⟩
theorem we859 {c1 : Cond} : (.code ⟨"RollingBallsModel", "choose", "()I"⟩ prog_8_method_35_code 4 (some .int) : Cond) ∈ c1 :: gT := List.mem_cons_of_mem _ wd859
theorem wd860 : (.methodLink "RollingBallsModel" 117 ⟨"RollingBallsModel", "manyOf", "(I)I"⟩ : Cond) ∈ gT := List.mem_filter.mpr ⟨List.mem_of_getElem? (i := 860) (by decide +kernel), (by decide +kernel)⟩
theorem we860 {c1 : Cond} : (.methodLink "RollingBallsModel" 117 ⟨"RollingBallsModel", "manyOf", "(I)I"⟩ : Cond) ∈ c1 :: gT := List.mem_cons_of_mem _ wd860
theorem wd862 : (.instanceMethod ⟨"RollingBallsModel", "manyOf", "(I)I"⟩ : Cond) ∈ gT := List.mem_filter.mpr ⟨List.mem_of_getElem? (i := 862) (by decide +kernel), (by decide +kernel)⟩
theorem we862 {c1 : Cond} : (.instanceMethod ⟨"RollingBallsModel", "manyOf", "(I)I"⟩ : Cond) ∈ c1 :: gT := List.mem_cons_of_mem _ wd862
theorem wd863 : (.code ⟨"RollingBallsModel", "manyOf", "(I)I"⟩ prog_8_method_33_code 2 (some .int) : Cond) ∈ gT := List.mem_filter.mpr ⟨List.mem_of_getElem? (i := 863) (by decide +kernel), (by decide +kernel)⟩
theorem we863 {c1 : Cond} : (.code ⟨"RollingBallsModel", "manyOf", "(I)I"⟩ prog_8_method_33_code 2 (some .int) : Cond) ∈ c1 :: gT := List.mem_cons_of_mem _ wd863
theorem wd864 : (.methodLink "RollingBallsModel" 120 ⟨"RollingBallsModel", "lengthOf", "(I)I"⟩ : Cond) ∈ gT := List.mem_filter.mpr ⟨List.mem_of_getElem? (i := 864) (by decide +kernel), (by decide +kernel)⟩
theorem we864 {c1 : Cond} : (.methodLink "RollingBallsModel" 120 ⟨"RollingBallsModel", "lengthOf", "(I)I"⟩ : Cond) ∈ c1 :: gT := List.mem_cons_of_mem _ wd864
theorem wd866 : (.instanceMethod ⟨"RollingBallsModel", "lengthOf", "(I)I"⟩ : Cond) ∈ gT := List.mem_filter.mpr ⟨List.mem_of_getElem? (i := 866) (by decide +kernel), (by decide +kernel)⟩
theorem we866 {c1 : Cond} : (.instanceMethod ⟨"RollingBallsModel", "lengthOf", "(I)I"⟩ : Cond) ∈ c1 :: gT := List.mem_cons_of_mem _ wd866
theorem wd867 : (.code ⟨"RollingBallsModel", "lengthOf", "(I)I"⟩ prog_8_method_34_code 4 (some .int) : Cond) ∈ gT := List.mem_filter.mpr ⟨List.mem_of_getElem? (i := 867) (by decide +kernel), (by decide +kernel)⟩
theorem we867 {c1 : Cond} : (.code ⟨"RollingBallsModel", "lengthOf", "(I)I"⟩ prog_8_method_34_code 4 (some .int) : Cond) ∈ c1 :: gT := List.mem_cons_of_mem _ wd867
theorem wd868 : (.methodLink "RollingBallsModel" 123 ⟨"RollingBallsModel", "does", "(I)Z"⟩ : Cond) ∈ gT := List.mem_filter.mpr ⟨List.mem_of_getElem? (i := 868) (by decide +kernel), (by decide +kernel)⟩
theorem we868 {c1 : Cond} : (.methodLink "RollingBallsModel" 123 ⟨"RollingBallsModel", "does", "(I)Z"⟩ : Cond) ∈ c1 :: gT := List.mem_cons_of_mem _ wd868
theorem wd870 : (.instanceMethod ⟨"RollingBallsModel", "does", "(I)Z"⟩ : Cond) ∈ gT := List.mem_filter.mpr ⟨List.mem_of_getElem? (i := 870) (by decide +kernel), (by decide +kernel)⟩
theorem we870 {c1 : Cond} : (.instanceMethod ⟨"RollingBallsModel", "does", "(I)Z"⟩ : Cond) ∈ c1 :: gT := List.mem_cons_of_mem _ wd870
theorem wd871 : (.code ⟨"RollingBallsModel", "does", "(I)Z"⟩ prog_8_method_32_code 4 (some .boolean) : Cond) ∈ gT := List.mem_filter.mpr ⟨List.mem_of_getElem? (i := 871) (by decide +kernel), (by decide +kernel)⟩
theorem we871 {c1 : Cond} : (.code ⟨"RollingBallsModel", "does", "(I)Z"⟩ prog_8_method_32_code 4 (some .boolean) : Cond) ∈ c1 :: gT := List.mem_cons_of_mem _ wd871
theorem wd872 : (.methodLink "RollingBallsLaw" 114 ⟨"RollingBallsModel", "put", "(I)I"⟩ : Cond) ∈ gT := List.mem_filter.mpr ⟨List.mem_of_getElem? (i := 872) (by decide +kernel), (by decide +kernel)⟩
theorem we872 {c1 : Cond} : (.methodLink "RollingBallsLaw" 114 ⟨"RollingBallsModel", "put", "(I)I"⟩ : Cond) ∈ c1 :: gT := List.mem_cons_of_mem _ wd872
theorem wd873 : (.instanceMethod ⟨"RollingBallsModel", "put", "(I)I"⟩ : Cond) ∈ gT := List.mem_filter.mpr ⟨List.mem_of_getElem? (i := 873) (by decide +kernel), (by decide +kernel)⟩
theorem we873 {c1 : Cond} : (.instanceMethod ⟨"RollingBallsModel", "put", "(I)I"⟩ : Cond) ∈ c1 :: gT := List.mem_cons_of_mem _ wd873
theorem wd874 : (.selects "RollingBallsModel" ⟨"RollingBallsModel", "put", "(I)I"⟩ ⟨"RollingBallsModel", "put", "(I)I"⟩ : Cond) ∈ gT := List.mem_filter.mpr ⟨List.mem_of_getElem? (i := 874) (by decide +kernel), (by decide +kernel)⟩
theorem we874 {c1 : Cond} : (.selects "RollingBallsModel" ⟨"RollingBallsModel", "put", "(I)I"⟩ ⟨"RollingBallsModel", "put", "(I)I"⟩ : Cond) ∈ c1 :: gT := List.mem_cons_of_mem _ wd874
theorem wd875 : (.code ⟨"RollingBallsModel", "put", "(I)I"⟩ prog_8_method_36_code 4 (some .int) : Cond) ∈ gT := List.mem_filter.mpr ⟨List.mem_of_getElem? (i := 875) (by decide +kernel), (by decide +kernel)⟩
theorem we875 {c1 : Cond} : (.code ⟨"RollingBallsModel", "put", "(I)I"⟩ prog_8_method_36_code 4 (some .int) : Cond) ∈ c1 :: gT := List.mem_cons_of_mem _ wd875
theorem wd876 : (.arrayClass .long : Cond) ∈ gT := List.mem_filter.mpr ⟨List.mem_of_getElem? (i := 876) (by decide +kernel), (by decide +kernel)⟩
theorem we876 {c1 : Cond} : (.arrayClass .long : Cond) ∈ c1 :: gT := List.mem_cons_of_mem _ wd876
