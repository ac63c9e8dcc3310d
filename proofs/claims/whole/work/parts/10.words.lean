/-! the tables' words by their places -/
theorem wp_0 : Cond.selects "HeelsIn" ({ cls := "HeelsIn", name := "found", desc := "(I)I" } : MethodName) ({ cls := "HeelsIn", name := "found", desc := "(I)I" } : MethodName) ∈ hh_ws := hh_in (List.mem_of_getElem? (i := 0) (by decide +kernel)) rfl
theorem wp_1 : Cond.selects "HeelsIn$Sheet" ({ cls := "HeelsIn$Sheet", name := "lay", desc := "(II)V" } : MethodName) ({ cls := "HeelsIn$Sheet", name := "lay", desc := "(II)V" } : MethodName) ∈ hh_ws := hh_in (List.mem_of_getElem? (i := 1) (by decide +kernel)) rfl
theorem wp_2 : Cond.selects "HeelsIn" ({ cls := "HeelsIn", name := "well", desc := "(I)I" } : MethodName) ({ cls := "HeelsIn", name := "well", desc := "(I)I" } : MethodName) ∈ hh_ws := hh_in (List.mem_of_getElem? (i := 2) (by decide +kernel)) rfl
theorem wp_3 : Cond.selects "HeelsIn$Sheet" ({ cls := "HeelsIn$Sheet", name := "holds", desc := "(II)Z" } : MethodName) ({ cls := "HeelsIn$Sheet", name := "holds", desc := "(II)Z" } : MethodName) ∈ hh_ws := hh_in (List.mem_of_getElem? (i := 3) (by decide +kernel)) rfl
theorem wp_4 : Cond.selects "HeelsIn$Sheet" ({ cls := "HeelsIn$Sheet", name := "cut", desc := "(I)I" } : MethodName) ({ cls := "HeelsIn$Sheet", name := "cut", desc := "(I)I" } : MethodName) ∈ hh_ws := hh_in (List.mem_of_getElem? (i := 4) (by decide +kernel)) rfl
theorem wp_5 : Cond.selects "HeelsIn$Reader" ({ cls := "HeelsIn$Reader", name := "append", desc := "(JI)Z" } : MethodName) ({ cls := "HeelsIn$Reader", name := "append", desc := "(JI)Z" } : MethodName) ∈ hh_ws := hh_in (List.mem_of_getElem? (i := 5) (by decide +kernel)) rfl
theorem wp_6 : Cond.selects "HeelsIn$Reader" ({ cls := "HeelsIn$Reader", name := "readText", desc := "(LHeelsIn$Match;)Z" } : MethodName) ({ cls := "HeelsIn$Reader", name := "readText", desc := "(LHeelsIn$Match;)Z" } : MethodName) ∈ hh_ws := hh_in (List.mem_of_getElem? (i := 6) (by decide +kernel)) rfl
theorem wp_7 : Cond.selects "HeelsIn$Reader" ({ cls := "HeelsIn$Reader", name := "advance", desc := "()V" } : MethodName) ({ cls := "HeelsIn$Reader", name := "advance", desc := "()V" } : MethodName) ∈ hh_ws := hh_in (List.mem_of_getElem? (i := 7) (by decide +kernel)) rfl
theorem wp_8 : Cond.selects "HeelsIn$Reader" ({ cls := "HeelsIn$Reader", name := "takeName", desc := "()V" } : MethodName) ({ cls := "HeelsIn$Reader", name := "takeName", desc := "()V" } : MethodName) ∈ hh_ws := hh_in (List.mem_of_getElem? (i := 8) (by decide +kernel)) rfl
theorem wp_9 : Cond.selects "HeelsIn$Reader" ({ cls := "HeelsIn$Reader", name := "takeNumber", desc := "()V" } : MethodName) ({ cls := "HeelsIn$Reader", name := "takeNumber", desc := "()V" } : MethodName) ∈ hh_ws := hh_in (List.mem_of_getElem? (i := 9) (by decide +kernel)) rfl
theorem wp_10 : Cond.selects "HeelsIn$Reader" ({ cls := "HeelsIn$Reader", name := "readHead", desc := "()Z" } : MethodName) ({ cls := "HeelsIn$Reader", name := "readHead", desc := "()Z" } : MethodName) ∈ hh_ws := hh_in (List.mem_of_getElem? (i := 10) (by decide +kernel)) rfl
theorem wp_11 : Cond.selects "HeelsIn$Reader" ({ cls := "HeelsIn$Reader", name := "readWord", desc := "(Ljava/lang/String;)Z" } : MethodName) ({ cls := "HeelsIn$Reader", name := "readWord", desc := "(Ljava/lang/String;)Z" } : MethodName) ∈ hh_ws := hh_in (List.mem_of_getElem? (i := 11) (by decide +kernel)) rfl
theorem wp_12 : Cond.selects "HeelsIn$Reader" ({ cls := "HeelsIn$Reader", name := "isName", desc := "(Ljava/lang/String;)Z" } : MethodName) ({ cls := "HeelsIn$Reader", name := "isName", desc := "(Ljava/lang/String;)Z" } : MethodName) ∈ hh_ws := hh_in (List.mem_of_getElem? (i := 12) (by decide +kernel)) rfl
theorem wp_13 : Cond.selects "HeelsIn$Reader" ({ cls := "HeelsIn$Reader", name := "refuse", desc := "(I)Z" } : MethodName) ({ cls := "HeelsIn$Reader", name := "refuse", desc := "(I)Z" } : MethodName) ∈ hh_ws := hh_in (List.mem_of_getElem? (i := 13) (by decide +kernel)) rfl
theorem wp_14 : Cond.selects "HeelsIn$Reader" ({ cls := "HeelsIn$Reader", name := "readSign", desc := "()Z" } : MethodName) ({ cls := "HeelsIn$Reader", name := "readSign", desc := "()Z" } : MethodName) ∈ hh_ws := hh_in (List.mem_of_getElem? (i := 14) (by decide +kernel)) rfl
theorem wp_15 : Cond.selects "HeelsIn$Reader" ({ cls := "HeelsIn$Reader", name := "readPullers", desc := "(LHeelsIn$Side;)Z" } : MethodName) ({ cls := "HeelsIn$Reader", name := "readPullers", desc := "(LHeelsIn$Side;)Z" } : MethodName) ∈ hh_ws := hh_in (List.mem_of_getElem? (i := 15) (by decide +kernel)) rfl
theorem wp_16 : Cond.selects "HeelsIn$Reader" ({ cls := "HeelsIn$Reader", name := "readNumber", desc := "([IIII)Z" } : MethodName) ({ cls := "HeelsIn$Reader", name := "readNumber", desc := "([IIII)Z" } : MethodName) ∈ hh_ws := hh_in (List.mem_of_getElem? (i := 16) (by decide +kernel)) rfl
theorem wp_17 : Cond.selects "HeelsIn$Reader" ({ cls := "HeelsIn$Reader", name := "readRules", desc := "(LHeelsIn$Side;)Z" } : MethodName) ({ cls := "HeelsIn$Reader", name := "readRules", desc := "(LHeelsIn$Side;)Z" } : MethodName) ∈ hh_ws := hh_in (List.mem_of_getElem? (i := 17) (by decide +kernel)) rfl
theorem wp_18 : Cond.selects "HeelsIn$Reader" ({ cls := "HeelsIn$Reader", name := "readOneOf", desc := "([IILjava/lang/String;Ljava/lang/String;Ljava/lang/String;Ljava/lang/String;)Z" } : MethodName) ({ cls := "HeelsIn$Reader", name := "readOneOf", desc := "([IILjava/lang/String;Ljava/lang/String;Ljava/lang/String;Ljava/lang/String;)Z" } : MethodName) ∈ hh_ws := hh_in (List.mem_of_getElem? (i := 18) (by decide +kernel)) rfl
theorem wp_19 : Cond.selects "HeelsIn$Reader" ({ cls := "HeelsIn$Reader", name := "readGround", desc := "(LHeelsIn$Match;)Z" } : MethodName) ({ cls := "HeelsIn$Reader", name := "readGround", desc := "(LHeelsIn$Match;)Z" } : MethodName) ∈ hh_ws := hh_in (List.mem_of_getElem? (i := 19) (by decide +kernel)) rfl
theorem wp_20 : Cond.selects "HeelsIn$Match" ({ cls := "HeelsIn$Match", name := "become", desc := "(LHeelsIn$Match;)V" } : MethodName) ({ cls := "HeelsIn$Match", name := "become", desc := "(LHeelsIn$Match;)V" } : MethodName) ∈ hh_ws := hh_in (List.mem_of_getElem? (i := 20) (by decide +kernel)) rfl
theorem wp_21 : Cond.selects "HeelsIn$Side" ({ cls := "HeelsIn$Side", name := "become", desc := "(LHeelsIn$Side;)V" } : MethodName) ({ cls := "HeelsIn$Side", name := "become", desc := "(LHeelsIn$Side;)V" } : MethodName) ∈ hh_ws := hh_in (List.mem_of_getElem? (i := 21) (by decide +kernel)) rfl
theorem wp_22 : Cond.selects "HeelsIn$Tug" ({ cls := "HeelsIn$Tug", name := "layGround", desc := "(LHeelsIn$Match;)V" } : MethodName) ({ cls := "HeelsIn$Tug", name := "layGround", desc := "(LHeelsIn$Match;)V" } : MethodName) ∈ hh_ws := hh_in (List.mem_of_getElem? (i := 22) (by decide +kernel)) rfl
theorem wp_23 : Cond.selects "HeelsIn$Match" ({ cls := "HeelsIn$Match", name := "pullers", desc := "()I" } : MethodName) ({ cls := "HeelsIn$Match", name := "pullers", desc := "()I" } : MethodName) ∈ hh_ws := hh_in (List.mem_of_getElem? (i := 23) (by decide +kernel)) rfl
theorem wp_24 : Cond.selects "HeelsIn" ({ cls := "HeelsIn", name := "isPuller", desc := "(II)Z" } : MethodName) ({ cls := "HeelsIn", name := "isPuller", desc := "(II)Z" } : MethodName) ∈ hh_ws := hh_in (List.mem_of_getElem? (i := 24) (by decide +kernel)) rfl
theorem wp_25 : Cond.selects "HeelsIn$Tug" ({ cls := "HeelsIn$Tug", name := "beginPull", desc := "(LHeelsIn$Match;I)V" } : MethodName) ({ cls := "HeelsIn$Tug", name := "beginPull", desc := "(LHeelsIn$Match;I)V" } : MethodName) ∈ hh_ws := hh_in (List.mem_of_getElem? (i := 25) (by decide +kernel)) rfl
theorem wp_26 : Cond.selects "HeelsIn$Tug" ({ cls := "HeelsIn$Tug", name := "goByRules", desc := "(LHeelsIn$Match;I)I" } : MethodName) ({ cls := "HeelsIn$Tug", name := "goByRules", desc := "(LHeelsIn$Match;I)I" } : MethodName) ∈ hh_ws := hh_in (List.mem_of_getElem? (i := 26) (by decide +kernel)) rfl
theorem wp_27 : Cond.selects "HeelsIn$Tug" ({ cls := "HeelsIn$Tug", name := "orderByRules", desc := "(LHeelsIn$Match;I)I" } : MethodName) ({ cls := "HeelsIn$Tug", name := "orderByRules", desc := "(LHeelsIn$Match;I)I" } : MethodName) ∈ hh_ws := hh_in (List.mem_of_getElem? (i := 27) (by decide +kernel)) rfl
theorem wp_28 : Cond.selects "HeelsIn$Tug" ({ cls := "HeelsIn$Tug", name := "feltBy", desc := "(LHeelsIn$Match;II)I" } : MethodName) ({ cls := "HeelsIn$Tug", name := "feltBy", desc := "(LHeelsIn$Match;II)I" } : MethodName) ∈ hh_ws := hh_in (List.mem_of_getElem? (i := 28) (by decide +kernel)) rfl
theorem wp_29 : Cond.selects "HeelsIn$Tug" ({ cls := "HeelsIn$Tug", name := "meanBreath", desc := "(LHeelsIn$Match;I)I" } : MethodName) ({ cls := "HeelsIn$Tug", name := "meanBreath", desc := "(LHeelsIn$Match;I)I" } : MethodName) ∈ hh_ws := hh_in (List.mem_of_getElem? (i := 29) (by decide +kernel)) rfl
theorem wp_30 : Cond.selects "HeelsIn$Tug" ({ cls := "HeelsIn$Tug", name := "goTenth", desc := "(LHeelsIn$Match;II)V" } : MethodName) ({ cls := "HeelsIn$Tug", name := "goTenth", desc := "(LHeelsIn$Match;II)V" } : MethodName) ∈ hh_ws := hh_in (List.mem_of_getElem? (i := 30) (by decide +kernel)) rfl
theorem wp_31 : Cond.selects "HeelsIn$Tug" ({ cls := "HeelsIn$Tug", name := "forceOfSide", desc := "(LHeelsIn$Match;IZ)I" } : MethodName) ({ cls := "HeelsIn$Tug", name := "forceOfSide", desc := "(LHeelsIn$Match;IZ)I" } : MethodName) ∈ hh_ws := hh_in (List.mem_of_getElem? (i := 31) (by decide +kernel)) rfl
theorem wp_32 : Cond.selects "HeelsIn$Tug" ({ cls := "HeelsIn$Tug", name := "doTenth", desc := "([IIIZ)V" } : MethodName) ({ cls := "HeelsIn$Tug", name := "doTenth", desc := "([IIIZ)V" } : MethodName) ∈ hh_ws := hh_in (List.mem_of_getElem? (i := 32) (by decide +kernel)) rfl
theorem wp_33 : Cond.selects "HeelsIn$Tug" ({ cls := "HeelsIn$Tug", name := "orderAt", desc := "(II)I" } : MethodName) ({ cls := "HeelsIn$Tug", name := "orderAt", desc := "(II)I" } : MethodName) ∈ hh_ws := hh_in (List.mem_of_getElem? (i := 33) (by decide +kernel)) rfl
theorem wp_34 : Cond.selects "HeelsIn$Tug" ({ cls := "HeelsIn$Tug", name := "endUnder", desc := "(I)I" } : MethodName) ({ cls := "HeelsIn$Tug", name := "endUnder", desc := "(I)I" } : MethodName) ∈ hh_ws := hh_in (List.mem_of_getElem? (i := 34) (by decide +kernel)) rfl
theorem wp_35 : Cond.selects "HeelsIn$Tug" ({ cls := "HeelsIn$Tug", name := "wearEnd", desc := "(LHeelsIn$Match;II)V" } : MethodName) ({ cls := "HeelsIn$Tug", name := "wearEnd", desc := "(LHeelsIn$Match;II)V" } : MethodName) ∈ hh_ws := hh_in (List.mem_of_getElem? (i := 35) (by decide +kernel)) rfl
theorem wp_36 : Cond.selects "HeelsIn$Tug" ({ cls := "HeelsIn$Tug", name := "goAsTold", desc := "(LHeelsIn$Match;LHeelsIn$Sheet;II)I" } : MethodName) ({ cls := "HeelsIn$Tug", name := "goAsTold", desc := "(LHeelsIn$Match;LHeelsIn$Sheet;II)I" } : MethodName) ∈ hh_ws := hh_in (List.mem_of_getElem? (i := 36) (by decide +kernel)) rfl
theorem wp_37 : Cond.selects "HeelsIn$Tug" ({ cls := "HeelsIn$Tug", name := "state", desc := "(I)I" } : MethodName) ({ cls := "HeelsIn$Tug", name := "state", desc := "(I)I" } : MethodName) ∈ hh_ws := hh_in (List.mem_of_getElem? (i := 37) (by decide +kernel)) rfl
theorem wp_38 : Cond.selects "HeelsIn$Tug" ({ cls := "HeelsIn$Tug", name := "keptTenths", desc := "()I" } : MethodName) ({ cls := "HeelsIn$Tug", name := "keptTenths", desc := "()I" } : MethodName) ∈ hh_ws := hh_in (List.mem_of_getElem? (i := 38) (by decide +kernel)) rfl
theorem wp_39 : Cond.selects "HeelsIn$Tug" ({ cls := "HeelsIn$Tug", name := "keptAgo", desc := "(II)I" } : MethodName) ({ cls := "HeelsIn$Tug", name := "keptAgo", desc := "(II)I" } : MethodName) ∈ hh_ws := hh_in (List.mem_of_getElem? (i := 39) (by decide +kernel)) rfl
theorem wp_40 : Cond.selects "HeelsIn$Tug" ({ cls := "HeelsIn$Tug", name := "winnerOfThree", desc := "(LHeelsIn$Match;II)I" } : MethodName) ({ cls := "HeelsIn$Tug", name := "winnerOfThree", desc := "(LHeelsIn$Match;II)I" } : MethodName) ∈ hh_ws := hh_in (List.mem_of_getElem? (i := 40) (by decide +kernel)) rfl
theorem wp_41 : Cond.selects "HeelsIn$Side" ({ cls := "HeelsIn$Side", name := "strongestTenth", desc := "(I)I" } : MethodName) ({ cls := "HeelsIn$Side", name := "strongestTenth", desc := "(I)I" } : MethodName) ∈ hh_ws := hh_in (List.mem_of_getElem? (i := 41) (by decide +kernel)) rfl
theorem wp_42 : Cond.selects "HeelsIn$Side" ({ cls := "HeelsIn$Side", name := "forceTogether", desc := "(II)I" } : MethodName) ({ cls := "HeelsIn$Side", name := "forceTogether", desc := "(II)I" } : MethodName) ∈ hh_ws := hh_in (List.mem_of_getElem? (i := 42) (by decide +kernel)) rfl
theorem wp_43 : Cond.selects "HeelsIn$Places" ({ cls := "HeelsIn$Places", name := "weigh", desc := "(LHeelsIn$Side;)V" } : MethodName) ({ cls := "HeelsIn$Places", name := "weigh", desc := "(LHeelsIn$Side;)V" } : MethodName) ∈ hh_ws := hh_in (List.mem_of_getElem? (i := 43) (by decide +kernel)) rfl
theorem wp_44 : Cond.selects "HeelsIn$Places" ({ cls := "HeelsIn$Places", name := "bestNext", desc := "(LHeelsIn$Side;I)I" } : MethodName) ({ cls := "HeelsIn$Places", name := "bestNext", desc := "(LHeelsIn$Side;I)I" } : MethodName) ∈ hh_ws := hh_in (List.mem_of_getElem? (i := 44) (by decide +kernel)) rfl
theorem wp_45 : Cond.selects "HeelsIn$Places" ({ cls := "HeelsIn$Places", name := "worthWith", desc := "(LHeelsIn$Side;II)I" } : MethodName) ({ cls := "HeelsIn$Places", name := "worthWith", desc := "(LHeelsIn$Side;II)I" } : MethodName) ∈ hh_ws := hh_in (List.mem_of_getElem? (i := 45) (by decide +kernel)) rfl
theorem wp_46 : Cond.selects "HeelsIn$Places" ({ cls := "HeelsIn$Places", name := "pullerAt", desc := "(LHeelsIn$Side;I)I" } : MethodName) ({ cls := "HeelsIn$Places", name := "pullerAt", desc := "(LHeelsIn$Side;I)I" } : MethodName) ∈ hh_ws := hh_in (List.mem_of_getElem? (i := 46) (by decide +kernel)) rfl
theorem wp_47 : Cond.selects "HeelsIn$Choice" ({ cls := "HeelsIn$Choice", name := "choose", desc := "(LHeelsIn$Match;II)V" } : MethodName) ({ cls := "HeelsIn$Choice", name := "choose", desc := "(LHeelsIn$Match;II)V" } : MethodName) ∈ hh_ws := hh_in (List.mem_of_getElem? (i := 47) (by decide +kernel)) rfl
theorem wp_48 : Cond.selects "HeelsIn$Game" ({ cls := "HeelsIn$Game", name := "fillTo", desc := "(I)V" } : MethodName) ({ cls := "HeelsIn$Game", name := "fillTo", desc := "(I)V" } : MethodName) ∈ hh_ws := hh_in (List.mem_of_getElem? (i := 48) (by decide +kernel)) rfl
theorem wp_49 : Cond.selects "HeelsIn$Game" ({ cls := "HeelsIn$Game", name := "bestMove", desc := "(III)I" } : MethodName) ({ cls := "HeelsIn$Game", name := "bestMove", desc := "(III)I" } : MethodName) ∈ hh_ws := hh_in (List.mem_of_getElem? (i := 49) (by decide +kernel)) rfl
theorem wp_50 : Cond.selects "HeelsIn$Game" ({ cls := "HeelsIn$Game", name := "worstOf", desc := "(IIII)I" } : MethodName) ({ cls := "HeelsIn$Game", name := "worstOf", desc := "(IIII)I" } : MethodName) ∈ hh_ws := hh_in (List.mem_of_getElem? (i := 50) (by decide +kernel)) rfl
theorem wp_51 : Cond.selects "HeelsIn$Game" ({ cls := "HeelsIn$Game", name := "gainBy", desc := "(IIIII)I" } : MethodName) ({ cls := "HeelsIn$Game", name := "gainBy", desc := "(IIIII)I" } : MethodName) ∈ hh_ws := hh_in (List.mem_of_getElem? (i := 51) (by decide +kernel)) rfl
theorem wp_52 : Cond.selects "HeelsIn$Game" ({ cls := "HeelsIn$Game", name := "valueOf", desc := "(III)I" } : MethodName) ({ cls := "HeelsIn$Game", name := "valueOf", desc := "(III)I" } : MethodName) ∈ hh_ws := hh_in (List.mem_of_getElem? (i := 52) (by decide +kernel)) rfl
theorem wp_53 : Cond.selects "HeelsIn$Game" ({ cls := "HeelsIn$Game", name := "bestOf", desc := "(III)I" } : MethodName) ({ cls := "HeelsIn$Game", name := "bestOf", desc := "(III)I" } : MethodName) ∈ hh_ws := hh_in (List.mem_of_getElem? (i := 53) (by decide +kernel)) rfl
theorem wp_54 : Cond.selects "HeelsIn$Tug" ({ cls := "HeelsIn$Tug", name := "roundOf", desc := "(I)I" } : MethodName) ({ cls := "HeelsIn$Tug", name := "roundOf", desc := "(I)I" } : MethodName) ∈ hh_ws := hh_in (List.mem_of_getElem? (i := 54) (by decide +kernel)) rfl
theorem wp_55 : Cond.selects "HeelsIn$Tug" ({ cls := "HeelsIn$Tug", name := "comesRound", desc := "(III)Z" } : MethodName) ({ cls := "HeelsIn$Tug", name := "comesRound", desc := "(III)Z" } : MethodName) ∈ hh_ws := hh_in (List.mem_of_getElem? (i := 55) (by decide +kernel)) rfl
theorem wp_56 : Cond.selects "HeelsIn$Tug" ({ cls := "HeelsIn$Tug", name := "become", desc := "(LHeelsIn$Tug;)V" } : MethodName) ({ cls := "HeelsIn$Tug", name := "become", desc := "(LHeelsIn$Tug;)V" } : MethodName) ∈ hh_ws := hh_in (List.mem_of_getElem? (i := 56) (by decide +kernel)) rfl
theorem wp_57 : Cond.selects "HeelsIn$Tug" ({ cls := "HeelsIn$Tug", name := "hasDoings", desc := "()Z" } : MethodName) ({ cls := "HeelsIn$Tug", name := "hasDoings", desc := "()Z" } : MethodName) ∈ hh_ws := hh_in (List.mem_of_getElem? (i := 57) (by decide +kernel)) rfl
theorem wp_58 : Cond.selects "HeelsIn" ({ cls := "HeelsIn", name := "kindOf", desc := "(II)I" } : MethodName) ({ cls := "HeelsIn", name := "kindOf", desc := "(II)I" } : MethodName) ∈ hh_ws := hh_in (List.mem_of_getElem? (i := 58) (by decide +kernel)) rfl
theorem wp_59 : Cond.selects "HeelsIn$Doing" ({ cls := "HeelsIn$Doing", name := "size", desc := "()I" } : MethodName) ({ cls := "HeelsIn$Doing", name := "size", desc := "()I" } : MethodName) ∈ hh_ws := hh_in (List.mem_of_getElem? (i := 59) (by decide +kernel)) rfl
theorem wp_60 : Cond.selects "HeelsIn$Doing" ({ cls := "HeelsIn$Doing", name := "size11", desc := "()I" } : MethodName) ({ cls := "HeelsIn$Doing", name := "size11", desc := "()I" } : MethodName) ∈ hh_ws := hh_in (List.mem_of_getElem? (i := 60) (by decide +kernel)) rfl
theorem wp_61 : Cond.selects "HeelsIn$Doing" ({ cls := "HeelsIn$Doing", name := "begins", desc := "(I)V" } : MethodName) ({ cls := "HeelsIn$Doing", name := "begins", desc := "(I)V" } : MethodName) ∈ hh_ws := hh_in (List.mem_of_getElem? (i := 61) (by decide +kernel)) rfl
theorem wp_62 : Cond.selects "HeelsIn$Doing" ({ cls := "HeelsIn$Doing", name := "size10", desc := "()I" } : MethodName) ({ cls := "HeelsIn$Doing", name := "size10", desc := "()I" } : MethodName) ∈ hh_ws := hh_in (List.mem_of_getElem? (i := 62) (by decide +kernel)) rfl
theorem wp_63 : Cond.selects "HeelsIn$Doing" ({ cls := "HeelsIn$Doing", name := "size12", desc := "()I" } : MethodName) ({ cls := "HeelsIn$Doing", name := "size12", desc := "()I" } : MethodName) ∈ hh_ws := hh_in (List.mem_of_getElem? (i := 63) (by decide +kernel)) rfl
theorem wp_64 : Cond.selects "HeelsIn$Doing" ({ cls := "HeelsIn$Doing", name := "size13", desc := "()I" } : MethodName) ({ cls := "HeelsIn$Doing", name := "size13", desc := "()I" } : MethodName) ∈ hh_ws := hh_in (List.mem_of_getElem? (i := 64) (by decide +kernel)) rfl
theorem wp_65 : Cond.selects "HeelsIn$Doing" ({ cls := "HeelsIn$Doing", name := "mark22", desc := "()I" } : MethodName) ({ cls := "HeelsIn$Doing", name := "mark22", desc := "()I" } : MethodName) ∈ hh_ws := hh_in (List.mem_of_getElem? (i := 65) (by decide +kernel)) rfl
theorem wp_66 : Cond.selects "HeelsIn$Doing" ({ cls := "HeelsIn$Doing", name := "mark21", desc := "()I" } : MethodName) ({ cls := "HeelsIn$Doing", name := "mark21", desc := "()I" } : MethodName) ∈ hh_ws := hh_in (List.mem_of_getElem? (i := 66) (by decide +kernel)) rfl
theorem wp_67 : Cond.selects "HeelsIn$Doing" ({ cls := "HeelsIn$Doing", name := "mark20", desc := "()I" } : MethodName) ({ cls := "HeelsIn$Doing", name := "mark20", desc := "()I" } : MethodName) ∈ hh_ws := hh_in (List.mem_of_getElem? (i := 67) (by decide +kernel)) rfl
theorem wp_68 : Cond.selects "HeelsIn$Doing" ({ cls := "HeelsIn$Doing", name := "size14", desc := "()I" } : MethodName) ({ cls := "HeelsIn$Doing", name := "size14", desc := "()I" } : MethodName) ∈ hh_ws := hh_in (List.mem_of_getElem? (i := 68) (by decide +kernel)) rfl
theorem wp_69 : Cond.selects "HeelsIn$Doing" ({ cls := "HeelsIn$Doing", name := "mark", desc := "()I" } : MethodName) ({ cls := "HeelsIn$Doing", name := "mark", desc := "()I" } : MethodName) ∈ hh_ws := hh_in (List.mem_of_getElem? (i := 69) (by decide +kernel)) rfl
theorem wp_70 : Cond.selects "HeelsIn$Doing" ({ cls := "HeelsIn$Doing", name := "mark23", desc := "()I" } : MethodName) ({ cls := "HeelsIn$Doing", name := "mark23", desc := "()I" } : MethodName) ∈ hh_ws := hh_in (List.mem_of_getElem? (i := 70) (by decide +kernel)) rfl
theorem wp_71 : Cond.selects "HeelsIn$Doing" ({ cls := "HeelsIn$Doing", name := "mark24", desc := "()I" } : MethodName) ({ cls := "HeelsIn$Doing", name := "mark24", desc := "()I" } : MethodName) ∈ hh_ws := hh_in (List.mem_of_getElem? (i := 71) (by decide +kernel)) rfl
theorem wp_72 : Cond.selects "HeelsIn" ({ cls := "HeelsIn", name := "sheetsThatAre", desc := "()I" } : MethodName) ({ cls := "HeelsIn", name := "sheetsThatAre", desc := "()I" } : MethodName) ∈ hh_ws := hh_in (List.mem_of_getElem? (i := 72) (by decide +kernel)) rfl
theorem wp_73 : Cond.selects "HeelsInModel" ({ cls := "HeelsInModel", name := "finding", desc := "(I)I" } : MethodName) ({ cls := "HeelsInModel", name := "finding", desc := "(I)I" } : MethodName) ∈ hh_ws := hh_in (List.mem_of_getElem? (i := 73) (by decide +kernel)) rfl
theorem wp_74 : Cond.selects "HeelsInModel" ({ cls := "HeelsInModel", name := "next", desc := "()V" } : MethodName) ({ cls := "HeelsInModel", name := "next", desc := "()V" } : MethodName) ∈ hh_ws := hh_in (List.mem_of_getElem? (i := 74) (by decide +kernel)) rfl
theorem wp_75 : Cond.selects "HeelsInModel" ({ cls := "HeelsInModel", name := "byteAt", desc := "(I)I" } : MethodName) ({ cls := "HeelsInModel", name := "byteAt", desc := "(I)I" } : MethodName) ∈ hh_ws := hh_in (List.mem_of_getElem? (i := 75) (by decide +kernel)) rfl
theorem wp_76 : Cond.selects "HeelsInModel" ({ cls := "HeelsInModel", name := "nextNumber", desc := "()V" } : MethodName) ({ cls := "HeelsInModel", name := "nextNumber", desc := "()V" } : MethodName) ∈ hh_ws := hh_in (List.mem_of_getElem? (i := 76) (by decide +kernel)) rfl
theorem wp_77 : Cond.selects "HeelsInModel" ({ cls := "HeelsInModel", name := "readSide", desc := "(I)V" } : MethodName) ({ cls := "HeelsInModel", name := "readSide", desc := "(I)V" } : MethodName) ∈ hh_ws := hh_in (List.mem_of_getElem? (i := 77) (by decide +kernel)) rfl
theorem wp_78 : Cond.selects "HeelsInModel" ({ cls := "HeelsInModel", name := "word", desc := "()J" } : MethodName) ({ cls := "HeelsInModel", name := "word", desc := "()J" } : MethodName) ∈ hh_ws := hh_in (List.mem_of_getElem? (i := 78) (by decide +kernel)) rfl
theorem wp_79 : Cond.selects "HeelsInModel" ({ cls := "HeelsInModel", name := "must", desc := "(Z)V" } : MethodName) ({ cls := "HeelsInModel", name := "must", desc := "(Z)V" } : MethodName) ∈ hh_ws := hh_in (List.mem_of_getElem? (i := 79) (by decide +kernel)) rfl
theorem wp_80 : Cond.selects "HeelsInModel" ({ cls := "HeelsInModel", name := "bad", desc := "(I)V" } : MethodName) ({ cls := "HeelsInModel", name := "bad", desc := "(I)V" } : MethodName) ∈ hh_ws := hh_in (List.mem_of_getElem? (i := 80) (by decide +kernel)) rfl
theorem wp_81 : Cond.selects "HeelsInModel" ({ cls := "HeelsInModel", name := "mustEnd", desc := "()V" } : MethodName) ({ cls := "HeelsInModel", name := "mustEnd", desc := "()V" } : MethodName) ∈ hh_ws := hh_in (List.mem_of_getElem? (i := 81) (by decide +kernel)) rfl
theorem wp_82 : Cond.selects "HeelsInModel" ({ cls := "HeelsInModel", name := "readPuller", desc := "(I)V" } : MethodName) ({ cls := "HeelsInModel", name := "readPuller", desc := "(I)V" } : MethodName) ∈ hh_ws := hh_in (List.mem_of_getElem? (i := 82) (by decide +kernel)) rfl
theorem wp_83 : Cond.selects "HeelsInModel" ({ cls := "HeelsInModel", name := "number", desc := "(II)I" } : MethodName) ({ cls := "HeelsInModel", name := "number", desc := "(II)I" } : MethodName) ∈ hh_ws := hh_in (List.mem_of_getElem? (i := 83) (by decide +kernel)) rfl
theorem wp_84 : Cond.selects "HeelsInModel" ({ cls := "HeelsInModel", name := "readRule", desc := "(I)V" } : MethodName) ({ cls := "HeelsInModel", name := "readRule", desc := "(I)V" } : MethodName) ∈ hh_ws := hh_in (List.mem_of_getElem? (i := 84) (by decide +kernel)) rfl
theorem wp_85 : Cond.selects "HeelsInModel" ({ cls := "HeelsInModel", name := "named", desc := "(I)I" } : MethodName) ({ cls := "HeelsInModel", name := "named", desc := "(I)I" } : MethodName) ∈ hh_ws := hh_in (List.mem_of_getElem? (i := 85) (by decide +kernel)) rfl
theorem wp_86 : Cond.selects "HeelsInModel" ({ cls := "HeelsInModel", name := "isPuller", desc := "(II)Z" } : MethodName) ({ cls := "HeelsInModel", name := "isPuller", desc := "(II)Z" } : MethodName) ∈ hh_ws := hh_in (List.mem_of_getElem? (i := 86) (by decide +kernel)) rfl
theorem wp_87 : Cond.selects "HeelsInModel" ({ cls := "HeelsInModel", name := "of", desc := "(III)I" } : MethodName) ({ cls := "HeelsInModel", name := "of", desc := "(III)I" } : MethodName) ∈ hh_ws := hh_in (List.mem_of_getElem? (i := 87) (by decide +kernel)) rfl
theorem wp_88 : Cond.selects "HeelsInModel" ({ cls := "HeelsInModel", name := "start", desc := "(I)V" } : MethodName) ({ cls := "HeelsInModel", name := "start", desc := "(I)V" } : MethodName) ∈ hh_ws := hh_in (List.mem_of_getElem? (i := 88) (by decide +kernel)) rfl
theorem wp_89 : Cond.selects "HeelsInModel" ({ cls := "HeelsInModel", name := "goOn", desc := "(I)I" } : MethodName) ({ cls := "HeelsInModel", name := "goOn", desc := "(I)I" } : MethodName) ∈ hh_ws := hh_in (List.mem_of_getElem? (i := 89) (by decide +kernel)) rfl
theorem wp_90 : Cond.selects "HeelsInModel" ({ cls := "HeelsInModel", name := "ruled", desc := "(I)I" } : MethodName) ({ cls := "HeelsInModel", name := "ruled", desc := "(I)I" } : MethodName) ∈ hh_ws := hh_in (List.mem_of_getElem? (i := 90) (by decide +kernel)) rfl
theorem wp_91 : Cond.selects "HeelsInModel" ({ cls := "HeelsInModel", name := "breathOf", desc := "(I)I" } : MethodName) ({ cls := "HeelsInModel", name := "breathOf", desc := "(I)I" } : MethodName) ∈ hh_ws := hh_in (List.mem_of_getElem? (i := 91) (by decide +kernel)) rfl
theorem wp_92 : Cond.selects "HeelsInModel" ({ cls := "HeelsInModel", name := "tenth", desc := "(II)V" } : MethodName) ({ cls := "HeelsInModel", name := "tenth", desc := "(II)V" } : MethodName) ∈ hh_ws := hh_in (List.mem_of_getElem? (i := 92) (by decide +kernel)) rfl
theorem wp_93 : Cond.selects "HeelsInModel" ({ cls := "HeelsInModel", name := "does", desc := "(IIIZ)I" } : MethodName) ({ cls := "HeelsInModel", name := "does", desc := "(IIIZ)I" } : MethodName) ∈ hh_ws := hh_in (List.mem_of_getElem? (i := 93) (by decide +kernel)) rfl
theorem wp_94 : Cond.selects "HeelsInModel" ({ cls := "HeelsInModel", name := "endOf", desc := "(I)I" } : MethodName) ({ cls := "HeelsInModel", name := "endOf", desc := "(I)I" } : MethodName) ∈ hh_ws := hh_in (List.mem_of_getElem? (i := 94) (by decide +kernel)) rfl
theorem wp_95 : Cond.selects "HeelsInModel" ({ cls := "HeelsInModel", name := "keepTenth", desc := "()V" } : MethodName) ({ cls := "HeelsInModel", name := "keepTenth", desc := "()V" } : MethodName) ∈ hh_ws := hh_in (List.mem_of_getElem? (i := 95) (by decide +kernel)) rfl
theorem wp_96 : Cond.selects "HeelsInModel" ({ cls := "HeelsInModel", name := "worthAt", desc := "(III)I" } : MethodName) ({ cls := "HeelsInModel", name := "worthAt", desc := "(III)I" } : MethodName) ∈ hh_ws := hh_in (List.mem_of_getElem? (i := 96) (by decide +kernel)) rfl
theorem wp_97 : Cond.selects "HeelsInModel" ({ cls := "HeelsInModel", name := "bestFor", desc := "(II)I" } : MethodName) ({ cls := "HeelsInModel", name := "bestFor", desc := "(II)I" } : MethodName) ∈ hh_ws := hh_in (List.mem_of_getElem? (i := 97) (by decide +kernel)) rfl
theorem wp_98 : Cond.selects "HeelsInModel" ({ cls := "HeelsInModel", name := "knownFor", desc := "(III)I" } : MethodName) ({ cls := "HeelsInModel", name := "knownFor", desc := "(III)I" } : MethodName) ∈ hh_ws := hh_in (List.mem_of_getElem? (i := 98) (by decide +kernel)) rfl
theorem wp_99 : Cond.selects "HeelsInModel" ({ cls := "HeelsInModel", name := "isIdle", desc := "()Z" } : MethodName) ({ cls := "HeelsInModel", name := "isIdle", desc := "()Z" } : MethodName) ∈ hh_ws := hh_in (List.mem_of_getElem? (i := 99) (by decide +kernel)) rfl
theorem wp_100 : Cond.selects "HeelsInModel" ({ cls := "HeelsInModel", name := "kindOf", desc := "(II)I" } : MethodName) ({ cls := "HeelsInModel", name := "kindOf", desc := "(II)I" } : MethodName) ∈ hh_ws := hh_in (List.mem_of_getElem? (i := 100) (by decide +kernel)) rfl
theorem wp_101 : Cond.selects "HeelsInModel" ({ cls := "HeelsInModel", name := "ownMark", desc := "(III)I" } : MethodName) ({ cls := "HeelsInModel", name := "ownMark", desc := "(III)I" } : MethodName) ∈ hh_ws := hh_in (List.mem_of_getElem? (i := 101) (by decide +kernel)) rfl
theorem wp_102 : Cond.selects "HeelsInModel" ({ cls := "HeelsInModel", name := "heavedMark", desc := "(III)I" } : MethodName) ({ cls := "HeelsInModel", name := "heavedMark", desc := "(III)I" } : MethodName) ∈ hh_ws := hh_in (List.mem_of_getElem? (i := 102) (by decide +kernel)) rfl
theorem wp_103 : Cond.selects "HeelsInModel" ({ cls := "HeelsInModel", name := "began", desc := "(I)V" } : MethodName) ({ cls := "HeelsInModel", name := "began", desc := "(I)V" } : MethodName) ∈ hh_ws := hh_in (List.mem_of_getElem? (i := 103) (by decide +kernel)) rfl
theorem wp_104 : Cond.selects "HeelsInModel" ({ cls := "HeelsInModel", name := "spentSize", desc := "(II)I" } : MethodName) ({ cls := "HeelsInModel", name := "spentSize", desc := "(II)I" } : MethodName) ∈ hh_ws := hh_in (List.mem_of_getElem? (i := 104) (by decide +kernel)) rfl
theorem wp_105 : Cond.selects "HeelsInModel" ({ cls := "HeelsInModel", name := "plainSize", desc := "(II)I" } : MethodName) ({ cls := "HeelsInModel", name := "plainSize", desc := "(II)I" } : MethodName) ∈ hh_ws := hh_in (List.mem_of_getElem? (i := 105) (by decide +kernel)) rfl
theorem wp_106 : Cond.selects "HeelsInModel" ({ cls := "HeelsInModel", name := "restedSize", desc := "(II)I" } : MethodName) ({ cls := "HeelsInModel", name := "restedSize", desc := "(II)I" } : MethodName) ∈ hh_ws := hh_in (List.mem_of_getElem? (i := 106) (by decide +kernel)) rfl
theorem wp_107 : Cond.selects "HeelsInModel" ({ cls := "HeelsInModel", name := "heldSize", desc := "(II)I" } : MethodName) ({ cls := "HeelsInModel", name := "heldSize", desc := "(II)I" } : MethodName) ∈ hh_ws := hh_in (List.mem_of_getElem? (i := 107) (by decide +kernel)) rfl
theorem wp_108 : Cond.selects "HeelsInModel" ({ cls := "HeelsInModel", name := "heavedSize", desc := "(III)I" } : MethodName) ({ cls := "HeelsInModel", name := "heavedSize", desc := "(III)I" } : MethodName) ∈ hh_ws := hh_in (List.mem_of_getElem? (i := 108) (by decide +kernel)) rfl
theorem wl_1 : Cond.initialized "HeelsIn" ∈ hh_ws := hh_in (List.mem_of_getElem? (i := 110) (by decide +kernel)) rfl
theorem wl_2 : Cond.initialized "HeelsIn$Reader" ∈ hh_ws := hh_in (List.mem_of_getElem? (i := 111) (by decide +kernel)) rfl
theorem wl_3 : Cond.initialized "HeelsIn$Match" ∈ hh_ws := hh_in (List.mem_of_getElem? (i := 112) (by decide +kernel)) rfl
theorem wl_4 : Cond.initialized "HeelsIn$Side" ∈ hh_ws := hh_in (List.mem_of_getElem? (i := 113) (by decide +kernel)) rfl
theorem wl_5 : Cond.initialized "HeelsIn$Tug" ∈ hh_ws := hh_in (List.mem_of_getElem? (i := 114) (by decide +kernel)) rfl
theorem wl_6 : Cond.initialized "HeelsIn$Places" ∈ hh_ws := hh_in (List.mem_of_getElem? (i := 115) (by decide +kernel)) rfl
theorem wl_7 : Cond.initialized "HeelsIn$Choice" ∈ hh_ws := hh_in (List.mem_of_getElem? (i := 116) (by decide +kernel)) rfl
theorem wl_8 : Cond.initialized "HeelsIn$Game" ∈ hh_ws := hh_in (List.mem_of_getElem? (i := 117) (by decide +kernel)) rfl
theorem wl_9 : Cond.initialized "HeelsIn$Doing" ∈ hh_ws := hh_in (List.mem_of_getElem? (i := 118) (by decide +kernel)) rfl
theorem wl_10 : Cond.initialized "HeelsIn$Sheet" ∈ hh_ws := hh_in (List.mem_of_getElem? (i := 119) (by decide +kernel)) rfl
theorem wl_11 : Cond.initialized "HeelsInModel" ∈ hh_ws := hh_in (List.mem_of_getElem? (i := 120) (by decide +kernel)) rfl
theorem wl_12 : Cond.initialized "java/lang/System" ∈ hh_ws := hh_in (List.mem_of_getElem? (i := 121) (by decide +kernel)) rfl
theorem wl_13 : Cond.initialized "java/lang/String" ∈ hh_ws := hh_in (List.mem_of_getElem? (i := 122) (by decide +kernel)) rfl
theorem wl_14 : Cond.initialized "java/lang/StringLatin1" ∈ hh_ws := hh_in (List.mem_of_getElem? (i := 123) (by decide +kernel)) rfl
theorem wl_15 : Cond.initialized "jdk/internal/util/Preconditions" ∈ hh_ws := hh_in (List.mem_of_getElem? (i := 124) (by decide +kernel)) rfl
theorem wl_17 : Cond.initialized "java/lang/Math" ∈ hh_ws := hh_in (List.mem_of_getElem? (i := 126) (by decide +kernel)) rfl
theorem wl_18 : Cond.initialized "java/lang/Integer" ∈ hh_ws := hh_in (List.mem_of_getElem? (i := 127) (by decide +kernel)) rfl
theorem wl_35 : Cond.fieldLink "HeelsIn$Reader" 9 "HeelsIn$Reader" "tape" "[B" ∈ hh_ws := hh_in (List.mem_of_getElem? (i := 144) (by decide +kernel)) rfl
theorem wl_36 : Cond.fieldLink "HeelsIn$Reader" 15 "HeelsIn$Reader" "bytes" "I" ∈ hh_ws := hh_in (List.mem_of_getElem? (i := 145) (by decide +kernel)) rfl
theorem wl_37 : Cond.fieldLinkNest "HeelsIn" 126 "HeelsIn$Reader" "bytes" "I" "HeelsIn" ∈ hh_nw := hh_nin (List.mem_of_getElem? (i := 146) (by decide +kernel)) rfl
theorem wl_38 : Cond.fieldLink "HeelsIn$Reader" 50 "HeelsIn$Reader" "token" "I" ∈ hh_ws := hh_in (List.mem_of_getElem? (i := 147) (by decide +kernel)) rfl
theorem wl_39 : Cond.fieldLink "HeelsIn$Reader" 131 "HeelsIn$Reader" "start" "I" ∈ hh_ws := hh_in (List.mem_of_getElem? (i := 148) (by decide +kernel)) rfl
theorem wl_40 : Cond.fieldLink "HeelsIn$Reader" 19 "HeelsIn$Reader" "end" "I" ∈ hh_ws := hh_in (List.mem_of_getElem? (i := 149) (by decide +kernel)) rfl
theorem wl_41 : Cond.fieldLink "HeelsIn$Reader" 125 "HeelsIn$Reader" "number" "I" ∈ hh_ws := hh_in (List.mem_of_getElem? (i := 150) (by decide +kernel)) rfl
theorem wl_42 : Cond.fieldLinkNest "HeelsIn" 134 "HeelsIn$Reader" "fault" "I" "HeelsIn" ∈ hh_nw := hh_nin (List.mem_of_getElem? (i := 151) (by decide +kernel)) rfl
theorem wl_43 : Cond.fieldLink "HeelsIn$Reader" 128 "HeelsIn$Reader" "fault" "I" ∈ hh_ws := hh_in (List.mem_of_getElem? (i := 152) (by decide +kernel)) rfl
theorem wl_44 : Cond.fieldLinkNest "HeelsIn" 141 "HeelsIn$Reader" "place" "I" "HeelsIn" ∈ hh_nw := hh_nin (List.mem_of_getElem? (i := 153) (by decide +kernel)) rfl
theorem wl_45 : Cond.fieldLink "HeelsIn$Reader" 134 "HeelsIn$Reader" "place" "I" ∈ hh_ws := hh_in (List.mem_of_getElem? (i := 154) (by decide +kernel)) rfl
theorem wl_79 : Cond.fieldLink "HeelsIn$Side" 21 "HeelsIn$Side" "count" "I" ∈ hh_ws := hh_in (List.mem_of_getElem? (i := 188) (by decide +kernel)) rfl
theorem wl_80 : Cond.fieldLinkNest "HeelsIn$Places" 15 "HeelsIn$Side" "count" "I" "HeelsIn" ∈ hh_nw := hh_nin (List.mem_of_getElem? (i := 189) (by decide +kernel)) rfl
theorem wl_81 : Cond.fieldLinkNest "HeelsIn$Choice" 27 "HeelsIn$Side" "count" "I" "HeelsIn" ∈ hh_nw := hh_nin (List.mem_of_getElem? (i := 190) (by decide +kernel)) rfl
theorem wl_82 : Cond.fieldLinkNest "HeelsIn$Match" 36 "HeelsIn$Side" "count" "I" "HeelsIn" ∈ hh_nw := hh_nin (List.mem_of_getElem? (i := 191) (by decide +kernel)) rfl
theorem wl_83 : Cond.fieldLinkNest "HeelsIn$Tug" 68 "HeelsIn$Side" "count" "I" "HeelsIn" ∈ hh_nw := hh_nin (List.mem_of_getElem? (i := 192) (by decide +kernel)) rfl
theorem wl_84 : Cond.fieldLinkNest "HeelsIn$Reader" 71 "HeelsIn$Side" "count" "I" "HeelsIn" ∈ hh_nw := hh_nin (List.mem_of_getElem? (i := 193) (by decide +kernel)) rfl
theorem wl_85 : Cond.fieldLinkNest "HeelsIn" 224 "HeelsIn$Side" "count" "I" "HeelsIn" ∈ hh_nw := hh_nin (List.mem_of_getElem? (i := 194) (by decide +kernel)) rfl
theorem wl_86 : Cond.fieldLink "HeelsIn$Side" 11 "HeelsIn$Side" "traits" "[[I" ∈ hh_ws := hh_in (List.mem_of_getElem? (i := 195) (by decide +kernel)) rfl
theorem wl_87 : Cond.fieldLinkNest "HeelsIn$Choice" 33 "HeelsIn$Side" "traits" "[[I" "HeelsIn" ∈ hh_nw := hh_nin (List.mem_of_getElem? (i := 196) (by decide +kernel)) rfl
theorem wl_88 : Cond.fieldLinkNest "HeelsIn$Places" 40 "HeelsIn$Side" "traits" "[[I" "HeelsIn" ∈ hh_nw := hh_nin (List.mem_of_getElem? (i := 197) (by decide +kernel)) rfl
theorem wl_89 : Cond.fieldLinkNest "HeelsIn$Tug" 73 "HeelsIn$Side" "traits" "[[I" "HeelsIn" ∈ hh_nw := hh_nin (List.mem_of_getElem? (i := 198) (by decide +kernel)) rfl
theorem wl_90 : Cond.fieldLinkNest "HeelsIn$Reader" 76 "HeelsIn$Side" "traits" "[[I" "HeelsIn" ∈ hh_nw := hh_nin (List.mem_of_getElem? (i := 199) (by decide +kernel)) rfl
theorem wl_91 : Cond.fieldLinkNest "HeelsIn" 162 "HeelsIn$Side" "traits" "[[I" "HeelsIn" ∈ hh_nw := hh_nin (List.mem_of_getElem? (i := 200) (by decide +kernel)) rfl
theorem wl_92 : Cond.fieldLink "HeelsIn$Side" 25 "HeelsIn$Side" "ruleCount" "I" ∈ hh_ws := hh_in (List.mem_of_getElem? (i := 201) (by decide +kernel)) rfl
theorem wl_93 : Cond.fieldLinkNest "HeelsIn$Reader" 84 "HeelsIn$Side" "ruleCount" "I" "HeelsIn" ∈ hh_nw := hh_nin (List.mem_of_getElem? (i := 202) (by decide +kernel)) rfl
theorem wl_94 : Cond.fieldLinkNest "HeelsIn$Tug" 89 "HeelsIn$Side" "ruleCount" "I" "HeelsIn" ∈ hh_nw := hh_nin (List.mem_of_getElem? (i := 203) (by decide +kernel)) rfl
theorem wl_95 : Cond.fieldLinkNest "HeelsIn" 306 "HeelsIn$Side" "ruleCount" "I" "HeelsIn" ∈ hh_nw := hh_nin (List.mem_of_getElem? (i := 204) (by decide +kernel)) rfl
theorem wl_96 : Cond.fieldLink "HeelsIn$Side" 18 "HeelsIn$Side" "rules" "[[I" ∈ hh_ws := hh_in (List.mem_of_getElem? (i := 205) (by decide +kernel)) rfl
theorem wl_97 : Cond.fieldLinkNest "HeelsIn$Reader" 89 "HeelsIn$Side" "rules" "[[I" "HeelsIn" ∈ hh_nw := hh_nin (List.mem_of_getElem? (i := 206) (by decide +kernel)) rfl
theorem wl_98 : Cond.fieldLinkNest "HeelsIn$Tug" 92 "HeelsIn$Side" "rules" "[[I" "HeelsIn" ∈ hh_nw := hh_nin (List.mem_of_getElem? (i := 207) (by decide +kernel)) rfl
theorem wl_109 : Cond.fieldLink "HeelsIn$Match" 22 "HeelsIn$Match" "stands" "Z" ∈ hh_ws := hh_in (List.mem_of_getElem? (i := 218) (by decide +kernel)) rfl
theorem wl_110 : Cond.fieldLinkNest "HeelsIn$Reader" 25 "HeelsIn$Match" "stands" "Z" "HeelsIn" ∈ hh_nw := hh_nin (List.mem_of_getElem? (i := 219) (by decide +kernel)) rfl
theorem wl_111 : Cond.fieldLinkNest "HeelsIn" 168 "HeelsIn$Match" "stands" "Z" "HeelsIn" ∈ hh_nw := hh_nin (List.mem_of_getElem? (i := 220) (by decide +kernel)) rfl
theorem wl_112 : Cond.fieldLink "HeelsIn$Match" 12 "HeelsIn$Match" "sides" "[LHeelsIn$Side;" ∈ hh_ws := hh_in (List.mem_of_getElem? (i := 221) (by decide +kernel)) rfl
theorem wl_113 : Cond.fieldLinkNest "HeelsIn$Choice" 21 "HeelsIn$Match" "sides" "[LHeelsIn$Side;" "HeelsIn" ∈ hh_nw := hh_nin (List.mem_of_getElem? (i := 222) (by decide +kernel)) rfl
theorem wl_114 : Cond.fieldLinkNest "HeelsIn$Reader" 35 "HeelsIn$Match" "sides" "[LHeelsIn$Side;" "HeelsIn" ∈ hh_nw := hh_nin (List.mem_of_getElem? (i := 223) (by decide +kernel)) rfl
theorem wl_115 : Cond.fieldLinkNest "HeelsIn$Tug" 64 "HeelsIn$Match" "sides" "[LHeelsIn$Side;" "HeelsIn" ∈ hh_nw := hh_nin (List.mem_of_getElem? (i := 224) (by decide +kernel)) rfl
theorem wl_116 : Cond.fieldLinkNest "HeelsIn" 158 "HeelsIn$Match" "sides" "[LHeelsIn$Side;" "HeelsIn" ∈ hh_nw := hh_nin (List.mem_of_getElem? (i := 225) (by decide +kernel)) rfl
theorem wl_117 : Cond.fieldLink "HeelsIn$Match" 18 "HeelsIn$Match" "ground" "[I" ∈ hh_ws := hh_in (List.mem_of_getElem? (i := 226) (by decide +kernel)) rfl
theorem wl_118 : Cond.fieldLinkNest "HeelsIn$Tug" 58 "HeelsIn$Match" "ground" "[I" "HeelsIn" ∈ hh_nw := hh_nin (List.mem_of_getElem? (i := 227) (by decide +kernel)) rfl
theorem wl_119 : Cond.fieldLinkNest "HeelsIn$Reader" 120 "HeelsIn$Match" "ground" "[I" "HeelsIn" ∈ hh_nw := hh_nin (List.mem_of_getElem? (i := 228) (by decide +kernel)) rfl
theorem wl_120 : Cond.fieldLinkNest "HeelsIn" 309 "HeelsIn$Match" "ground" "[I" "HeelsIn" ∈ hh_nw := hh_nin (List.mem_of_getElem? (i := 229) (by decide +kernel)) rfl
theorem wl_135 : Cond.fieldLink "HeelsIn$Tug" 9 "HeelsIn$Tug" "grips" "[I" ∈ hh_ws := hh_in (List.mem_of_getElem? (i := 244) (by decide +kernel)) rfl
theorem wl_136 : Cond.fieldLink "HeelsIn$Tug" 29 "HeelsIn$Tug" "begun" "Z" ∈ hh_ws := hh_in (List.mem_of_getElem? (i := 245) (by decide +kernel)) rfl
theorem wl_137 : Cond.fieldLinkNest "HeelsIn" 176 "HeelsIn$Tug" "begun" "Z" "HeelsIn" ∈ hh_nw := hh_nin (List.mem_of_getElem? (i := 246) (by decide +kernel)) rfl
theorem wl_138 : Cond.fieldLink "HeelsIn$Tug" 33 "HeelsIn$Tug" "changed" "I" ∈ hh_ws := hh_in (List.mem_of_getElem? (i := 247) (by decide +kernel)) rfl
theorem wl_139 : Cond.fieldLink "HeelsIn$Tug" 37 "HeelsIn$Tug" "thread" "I" ∈ hh_ws := hh_in (List.mem_of_getElem? (i := 248) (by decide +kernel)) rfl
theorem wl_140 : Cond.fieldLink "HeelsIn$Tug" 40 "HeelsIn$Tug" "gone" "I" ∈ hh_ws := hh_in (List.mem_of_getElem? (i := 249) (by decide +kernel)) rfl
theorem wl_141 : Cond.fieldLinkNest "HeelsIn" 197 "HeelsIn$Tug" "gone" "I" "HeelsIn" ∈ hh_nw := hh_nin (List.mem_of_getElem? (i := 250) (by decide +kernel)) rfl
theorem wl_142 : Cond.fieldLink "HeelsIn$Tug" 43 "HeelsIn$Tug" "won" "I" ∈ hh_ws := hh_in (List.mem_of_getElem? (i := 251) (by decide +kernel)) rfl
theorem wl_143 : Cond.fieldLink "HeelsIn$Tug" 46 "HeelsIn$Tug" "gave" "I" ∈ hh_ws := hh_in (List.mem_of_getElem? (i := 252) (by decide +kernel)) rfl
theorem wl_144 : Cond.fieldLink "HeelsIn$Tug" 49 "HeelsIn$Tug" "gaveIn" "I" ∈ hh_ws := hh_in (List.mem_of_getElem? (i := 253) (by decide +kernel)) rfl
theorem wl_145 : Cond.fieldLink "HeelsIn$Tug" 17 "HeelsIn$Tug" "breath" "[[I" ∈ hh_ws := hh_in (List.mem_of_getElem? (i := 254) (by decide +kernel)) rfl
theorem wl_146 : Cond.fieldLinkNest "HeelsIn" 194 "HeelsIn$Tug" "breath" "[[I" "HeelsIn" ∈ hh_nw := hh_nin (List.mem_of_getElem? (i := 255) (by decide +kernel)) rfl
theorem wl_147 : Cond.fieldLink "HeelsIn$Tug" 20 "HeelsIn$Tug" "did" "[[I" ∈ hh_ws := hh_in (List.mem_of_getElem? (i := 256) (by decide +kernel)) rfl
theorem wl_148 : Cond.fieldLinkNest "HeelsIn" 201 "HeelsIn$Tug" "did" "[[I" "HeelsIn" ∈ hh_nw := hh_nin (List.mem_of_getElem? (i := 257) (by decide +kernel)) rfl
theorem wl_149 : Cond.fieldLink "HeelsIn$Tug" 23 "HeelsIn$Tug" "force" "[[I" ∈ hh_ws := hh_in (List.mem_of_getElem? (i := 258) (by decide +kernel)) rfl
theorem wl_150 : Cond.fieldLinkNest "HeelsIn" 204 "HeelsIn$Tug" "force" "[[I" "HeelsIn" ∈ hh_nw := hh_nin (List.mem_of_getElem? (i := 259) (by decide +kernel)) rfl
theorem wl_151 : Cond.fieldLink "HeelsIn$Tug" 26 "HeelsIn$Tug" "kept" "[[I" ∈ hh_ws := hh_in (List.mem_of_getElem? (i := 260) (by decide +kernel)) rfl
theorem wl_185 : Cond.fieldLink "HeelsIn$Places" 9 "HeelsIn$Places" "worthBehind" "[I" ∈ hh_ws := hh_in (List.mem_of_getElem? (i := 294) (by decide +kernel)) rfl
theorem wl_186 : Cond.fieldLinkNest "HeelsIn" 231 "HeelsIn$Places" "worthBehind" "[I" "HeelsIn" ∈ hh_nw := hh_nin (List.mem_of_getElem? (i := 295) (by decide +kernel)) rfl
theorem wl_196 : Cond.fieldLink "HeelsIn$Choice" 9 "HeelsIn$Choice" "weight" "[I" ∈ hh_ws := hh_in (List.mem_of_getElem? (i := 305) (by decide +kernel)) rfl
theorem wl_197 : Cond.fieldLink "HeelsIn$Choice" 15 "HeelsIn$Choice" "hold" "[I" ∈ hh_ws := hh_in (List.mem_of_getElem? (i := 306) (by decide +kernel)) rfl
theorem wl_198 : Cond.fieldLink "HeelsIn$Choice" 18 "HeelsIn$Choice" "holdBelow" "[I" ∈ hh_ws := hh_in (List.mem_of_getElem? (i := 307) (by decide +kernel)) rfl
theorem wl_199 : Cond.fieldLink "HeelsIn$Choice" 37 "HeelsIn$Choice" "bestSet" "I" ∈ hh_ws := hh_in (List.mem_of_getElem? (i := 308) (by decide +kernel)) rfl
theorem wl_200 : Cond.fieldLinkNest "HeelsIn" 242 "HeelsIn$Choice" "bestSet" "I" "HeelsIn" ∈ hh_nw := hh_nin (List.mem_of_getElem? (i := 309) (by decide +kernel)) rfl
theorem wl_201 : Cond.fieldLink "HeelsIn$Choice" 40 "HeelsIn$Choice" "bestHold" "I" ∈ hh_ws := hh_in (List.mem_of_getElem? (i := 310) (by decide +kernel)) rfl
theorem wl_202 : Cond.fieldLinkNest "HeelsIn" 245 "HeelsIn$Choice" "bestHold" "I" "HeelsIn" ∈ hh_nw := hh_nin (List.mem_of_getElem? (i := 311) (by decide +kernel)) rfl
theorem wl_221 : Cond.fieldLink "HeelsIn$Game" 13 "HeelsIn$Game" "values" "[[I" ∈ hh_ws := hh_in (List.mem_of_getElem? (i := 330) (by decide +kernel)) rfl
theorem wl_222 : Cond.fieldLink "HeelsIn$Game" 16 "HeelsIn$Game" "filled" "I" ∈ hh_ws := hh_in (List.mem_of_getElem? (i := 331) (by decide +kernel)) rfl
theorem wl_234 : Cond.fieldLink "HeelsIn$Doing" 17 "HeelsIn$Doing" "kind" "I" ∈ hh_ws := hh_in (List.mem_of_getElem? (i := 343) (by decide +kernel)) rfl
theorem wl_235 : Cond.fieldLinkNest "HeelsIn" 279 "HeelsIn$Doing" "kind" "I" "HeelsIn" ∈ hh_nw := hh_nin (List.mem_of_getElem? (i := 344) (by decide +kernel)) rfl
theorem wl_236 : Cond.fieldLink "HeelsIn$Doing" 61 "HeelsIn$Doing" "puller" "I" ∈ hh_ws := hh_in (List.mem_of_getElem? (i := 345) (by decide +kernel)) rfl
theorem wl_237 : Cond.fieldLinkNest "HeelsIn" 282 "HeelsIn$Doing" "puller" "I" "HeelsIn" ∈ hh_nw := hh_nin (List.mem_of_getElem? (i := 346) (by decide +kernel)) rfl
theorem wl_238 : Cond.fieldLink "HeelsIn$Doing" 55 "HeelsIn$Doing" "force" "I" ∈ hh_ws := hh_in (List.mem_of_getElem? (i := 347) (by decide +kernel)) rfl
theorem wl_239 : Cond.fieldLinkNest "HeelsIn" 285 "HeelsIn$Doing" "force" "I" "HeelsIn" ∈ hh_nw := hh_nin (List.mem_of_getElem? (i := 348) (by decide +kernel)) rfl
theorem wl_240 : Cond.fieldLink "HeelsIn$Doing" 58 "HeelsIn$Doing" "breath" "I" ∈ hh_ws := hh_in (List.mem_of_getElem? (i := 349) (by decide +kernel)) rfl
theorem wl_241 : Cond.fieldLinkNest "HeelsIn" 287 "HeelsIn$Doing" "breath" "I" "HeelsIn" ∈ hh_nw := hh_nin (List.mem_of_getElem? (i := 350) (by decide +kernel)) rfl
theorem wl_242 : Cond.fieldLink "HeelsIn$Doing" 64 "HeelsIn$Doing" "lag" "I" ∈ hh_ws := hh_in (List.mem_of_getElem? (i := 351) (by decide +kernel)) rfl
theorem wl_243 : Cond.fieldLinkNest "HeelsIn" 289 "HeelsIn$Doing" "lag" "I" "HeelsIn" ∈ hh_nw := hh_nin (List.mem_of_getElem? (i := 352) (by decide +kernel)) rfl
theorem wl_244 : Cond.fieldLink "HeelsIn$Doing" 9 "HeelsIn$Doing" "numbers" "[I" ∈ hh_ws := hh_in (List.mem_of_getElem? (i := 353) (by decide +kernel)) rfl
theorem wl_245 : Cond.fieldLinkNest "HeelsIn" 300 "HeelsIn$Doing" "numbers" "[I" "HeelsIn" ∈ hh_nw := hh_nin (List.mem_of_getElem? (i := 354) (by decide +kernel)) rfl
theorem wl_246 : Cond.fieldLink "HeelsIn$Doing" 13 "HeelsIn$Doing" "traced" "I" ∈ hh_ws := hh_in (List.mem_of_getElem? (i := 355) (by decide +kernel)) rfl
theorem wl_247 : Cond.fieldLinkNest "HeelsIn" 292 "HeelsIn$Doing" "traced" "I" "HeelsIn" ∈ hh_nw := hh_nin (List.mem_of_getElem? (i := 356) (by decide +kernel)) rfl
theorem wl_268 : Cond.fieldLink "HeelsIn$Sheet" 9 "HeelsIn$Sheet" "missing" "Z" ∈ hh_ws := hh_in (List.mem_of_getElem? (i := 377) (by decide +kernel)) rfl
theorem wl_269 : Cond.fieldLinkNest "HeelsIn" 95 "HeelsIn$Sheet" "missing" "Z" "HeelsIn" ∈ hh_nw := hh_nin (List.mem_of_getElem? (i := 378) (by decide +kernel)) rfl
theorem wl_270 : Cond.fieldLink "HeelsIn$Sheet" 19 "HeelsIn$Sheet" "lane" "I" ∈ hh_ws := hh_in (List.mem_of_getElem? (i := 379) (by decide +kernel)) rfl
theorem wl_271 : Cond.fieldLinkNest "HeelsIn" 109 "HeelsIn$Sheet" "lane" "I" "HeelsIn" ∈ hh_nw := hh_nin (List.mem_of_getElem? (i := 380) (by decide +kernel)) rfl
theorem wl_272 : Cond.fieldLink "HeelsIn$Sheet" 23 "HeelsIn$Sheet" "size" "I" ∈ hh_ws := hh_in (List.mem_of_getElem? (i := 381) (by decide +kernel)) rfl
theorem wl_273 : Cond.fieldLinkNest "HeelsIn" 119 "HeelsIn$Sheet" "size" "I" "HeelsIn" ∈ hh_nw := hh_nin (List.mem_of_getElem? (i := 382) (by decide +kernel)) rfl
theorem wl_274 : Cond.fieldLink "HeelsIn$Sheet" 15 "HeelsIn$Sheet" "items" "[I" ∈ hh_ws := hh_in (List.mem_of_getElem? (i := 383) (by decide +kernel)) rfl
theorem wl_275 : Cond.fieldLinkNest "HeelsIn" 102 "HeelsIn$Sheet" "items" "[I" "HeelsIn" ∈ hh_nw := hh_nin (List.mem_of_getElem? (i := 384) (by decide +kernel)) rfl
theorem wl_276 : Cond.fieldLinkNest "HeelsIn$Tug" 84 "HeelsIn$Sheet" "items" "[I" "HeelsIn" ∈ hh_nw := hh_nin (List.mem_of_getElem? (i := 385) (by decide +kernel)) rfl
theorem wl_286 : Cond.fieldLink "HeelsIn" 11 "HeelsIn" "sheets" "[LHeelsIn$Sheet;" ∈ hh_ws := hh_in (List.mem_of_getElem? (i := 395) (by decide +kernel)) rfl
theorem wl_287 : Cond.fieldLink "HeelsIn" 312 "HeelsIn" "finding" "I" ∈ hh_ws := hh_in (List.mem_of_getElem? (i := 396) (by decide +kernel)) rfl
theorem wl_288 : Cond.fieldLink "HeelsIn" 18 "HeelsIn" "reader" "LHeelsIn$Reader;" ∈ hh_ws := hh_in (List.mem_of_getElem? (i := 397) (by decide +kernel)) rfl
theorem wl_289 : Cond.fieldLink "HeelsIn" 137 "HeelsIn" "latestFault" "I" ∈ hh_ws := hh_in (List.mem_of_getElem? (i := 398) (by decide +kernel)) rfl
theorem wl_290 : Cond.fieldLink "HeelsIn" 25 "HeelsIn" "match" "LHeelsIn$Match;" ∈ hh_ws := hh_in (List.mem_of_getElem? (i := 399) (by decide +kernel)) rfl
theorem wl_291 : Cond.fieldLink "HeelsIn" 29 "HeelsIn" "draft" "LHeelsIn$Match;" ∈ hh_ws := hh_in (List.mem_of_getElem? (i := 400) (by decide +kernel)) rfl
theorem wl_292 : Cond.fieldLink "HeelsIn" 35 "HeelsIn" "tug" "LHeelsIn$Tug;" ∈ hh_ws := hh_in (List.mem_of_getElem? (i := 401) (by decide +kernel)) rfl
theorem wl_293 : Cond.fieldLink "HeelsIn" 39 "HeelsIn" "trial" "LHeelsIn$Tug;" ∈ hh_ws := hh_in (List.mem_of_getElem? (i := 402) (by decide +kernel)) rfl
theorem wl_294 : Cond.fieldLink "HeelsIn" 42 "HeelsIn" "imageMatches" "[LHeelsIn$Match;" ∈ hh_ws := hh_in (List.mem_of_getElem? (i := 403) (by decide +kernel)) rfl
theorem wl_295 : Cond.fieldLink "HeelsIn" 46 "HeelsIn" "imageTugs" "[LHeelsIn$Tug;" ∈ hh_ws := hh_in (List.mem_of_getElem? (i := 404) (by decide +kernel)) rfl
theorem wl_296 : Cond.fieldLink "HeelsIn" 53 "HeelsIn" "places" "LHeelsIn$Places;" ∈ hh_ws := hh_in (List.mem_of_getElem? (i := 405) (by decide +kernel)) rfl
theorem wl_297 : Cond.fieldLink "HeelsIn" 60 "HeelsIn" "choice" "LHeelsIn$Choice;" ∈ hh_ws := hh_in (List.mem_of_getElem? (i := 406) (by decide +kernel)) rfl
theorem wl_298 : Cond.fieldLink "HeelsIn" 67 "HeelsIn" "game" "LHeelsIn$Game;" ∈ hh_ws := hh_in (List.mem_of_getElem? (i := 407) (by decide +kernel)) rfl
theorem wl_299 : Cond.fieldLink "HeelsIn" 74 "HeelsIn" "asked" "LHeelsIn$Doing;" ∈ hh_ws := hh_in (List.mem_of_getElem? (i := 408) (by decide +kernel)) rfl
theorem wl_330 : Cond.instanceMethod ({ cls := "HeelsIn", name := "sheet", desc := "(III)I" } : MethodName) ∈ hh_ws := hh_in (List.mem_of_getElem? (i := 439) (by decide +kernel)) rfl
theorem wl_331 : Cond.selects "HeelsIn" ({ cls := "HeelsIn", name := "sheet", desc := "(III)I" } : MethodName) ({ cls := "HeelsIn", name := "sheet", desc := "(III)I" } : MethodName) ∈ hh_ws := hh_in (List.mem_of_getElem? (i := 440) (by decide +kernel)) rfl
theorem wl_332 : Cond.code ({ cls := "HeelsIn", name := "sheet", desc := "(III)I" } : MethodName) prog_1_method_2_code 4 (Option.some FieldType.int) ∈ hh_ws := hh_in (List.mem_of_getElem? (i := 441) (by decide +kernel)) rfl
theorem wl_333 : Cond.methodLink "HeelsIn" 79 ({ cls := "HeelsIn", name := "within", desc := "(II)Z" } : MethodName) ∈ hh_ws := hh_in (List.mem_of_getElem? (i := 442) (by decide +kernel)) rfl
theorem wl_334 : Cond.static ({ cls := "HeelsIn", name := "within", desc := "(II)Z" } : MethodName) ∈ hh_ws := hh_in (List.mem_of_getElem? (i := 443) (by decide +kernel)) rfl
theorem wl_335 : Cond.code ({ cls := "HeelsIn", name := "within", desc := "(II)Z" } : MethodName) prog_1_method_31_code 2 (Option.some FieldType.boolean) ∈ hh_ws := hh_in (List.mem_of_getElem? (i := 444) (by decide +kernel)) rfl
theorem wl_336 : Cond.constant "HeelsIn" 83 (Int32.ofInt (-1000001)) ∈ hh_ws := hh_in (List.mem_of_getElem? (i := 445) (by decide +kernel)) rfl
theorem wl_337 : Cond.methodLink "HeelsIn" 84 ({ cls := "HeelsIn", name := "found", desc := "(I)I" } : MethodName) ∈ hh_ws := hh_in (List.mem_of_getElem? (i := 446) (by decide +kernel)) rfl
theorem wl_339 : Cond.instanceMethod ({ cls := "HeelsIn", name := "found", desc := "(I)I" } : MethodName) ∈ hh_ws := hh_in (List.mem_of_getElem? (i := 448) (by decide +kernel)) rfl
theorem wl_340 : Cond.code ({ cls := "HeelsIn", name := "found", desc := "(I)I" } : MethodName) prog_1_method_32_code 2 (Option.some FieldType.int) ∈ hh_ws := hh_in (List.mem_of_getElem? (i := 449) (by decide +kernel)) rfl
theorem wl_341 : Cond.constant "HeelsIn" 315 (Int32.ofInt (-1000010)) ∈ hh_ws := hh_in (List.mem_of_getElem? (i := 450) (by decide +kernel)) rfl
theorem wl_342 : Cond.methodLinkNest "HeelsIn" 88 ({ cls := "HeelsIn$Sheet", name := "lay", desc := "(II)V" } : MethodName) "HeelsIn" ∈ hh_nw := hh_nin (List.mem_of_getElem? (i := 451) (by decide +kernel)) rfl
theorem wl_344 : Cond.instanceMethod ({ cls := "HeelsIn$Sheet", name := "lay", desc := "(II)V" } : MethodName) ∈ hh_ws := hh_in (List.mem_of_getElem? (i := 453) (by decide +kernel)) rfl
theorem wl_345 : Cond.code ({ cls := "HeelsIn$Sheet", name := "lay", desc := "(II)V" } : MethodName) prog_8_method_2_code 4 (Option.none : Option FieldType) ∈ hh_ws := hh_in (List.mem_of_getElem? (i := 454) (by decide +kernel)) rfl
theorem wl_346 : Cond.methodLink "HeelsIn" 92 ({ cls := "HeelsIn", name := "well", desc := "(I)I" } : MethodName) ∈ hh_ws := hh_in (List.mem_of_getElem? (i := 455) (by decide +kernel)) rfl
theorem wl_348 : Cond.instanceMethod ({ cls := "HeelsIn", name := "well", desc := "(I)I" } : MethodName) ∈ hh_ws := hh_in (List.mem_of_getElem? (i := 457) (by decide +kernel)) rfl
theorem wl_349 : Cond.code ({ cls := "HeelsIn", name := "well", desc := "(I)I" } : MethodName) prog_1_method_33_code 2 (Option.some FieldType.int) ∈ hh_ws := hh_in (List.mem_of_getElem? (i := 458) (by decide +kernel)) rfl
theorem wl_351 : Cond.instanceMethod ({ cls := "HeelsIn", name := "set", desc := "(III)I" } : MethodName) ∈ hh_ws := hh_in (List.mem_of_getElem? (i := 460) (by decide +kernel)) rfl
theorem wl_352 : Cond.selects "HeelsIn" ({ cls := "HeelsIn", name := "set", desc := "(III)I" } : MethodName) ({ cls := "HeelsIn", name := "set", desc := "(III)I" } : MethodName) ∈ hh_ws := hh_in (List.mem_of_getElem? (i := 461) (by decide +kernel)) rfl
theorem wl_353 : Cond.code ({ cls := "HeelsIn", name := "set", desc := "(III)I" } : MethodName) prog_1_method_3_code 5 (Option.some FieldType.int) ∈ hh_ws := hh_in (List.mem_of_getElem? (i := 462) (by decide +kernel)) rfl
theorem wl_354 : Cond.methodLinkNest "HeelsIn" 99 ({ cls := "HeelsIn$Sheet", name := "holds", desc := "(II)Z" } : MethodName) "HeelsIn" ∈ hh_nw := hh_nin (List.mem_of_getElem? (i := 463) (by decide +kernel)) rfl
theorem wl_356 : Cond.instanceMethod ({ cls := "HeelsIn$Sheet", name := "holds", desc := "(II)Z" } : MethodName) ∈ hh_ws := hh_in (List.mem_of_getElem? (i := 465) (by decide +kernel)) rfl
theorem wl_357 : Cond.code ({ cls := "HeelsIn$Sheet", name := "holds", desc := "(II)Z" } : MethodName) prog_8_method_3_code 3 (Option.some FieldType.boolean) ∈ hh_ws := hh_in (List.mem_of_getElem? (i := 466) (by decide +kernel)) rfl
theorem wl_358 : Cond.methodLinkNest "HeelsIn" 106 ({ cls := "HeelsIn$Sheet", name := "cut", desc := "(I)I" } : MethodName) "HeelsIn" ∈ hh_nw := hh_nin (List.mem_of_getElem? (i := 467) (by decide +kernel)) rfl
theorem wl_360 : Cond.instanceMethod ({ cls := "HeelsIn$Sheet", name := "cut", desc := "(I)I" } : MethodName) ∈ hh_ws := hh_in (List.mem_of_getElem? (i := 469) (by decide +kernel)) rfl
theorem wl_361 : Cond.code ({ cls := "HeelsIn$Sheet", name := "cut", desc := "(I)I" } : MethodName) prog_8_method_4_code 2 (Option.some FieldType.int) ∈ hh_ws := hh_in (List.mem_of_getElem? (i := 470) (by decide +kernel)) rfl
theorem wl_363 : Cond.instanceMethod ({ cls := "HeelsIn", name := "copy", desc := "(IIIII)I" } : MethodName) ∈ hh_ws := hh_in (List.mem_of_getElem? (i := 472) (by decide +kernel)) rfl
theorem wl_364 : Cond.selects "HeelsIn" ({ cls := "HeelsIn", name := "copy", desc := "(IIIII)I" } : MethodName) ({ cls := "HeelsIn", name := "copy", desc := "(IIIII)I" } : MethodName) ∈ hh_ws := hh_in (List.mem_of_getElem? (i := 473) (by decide +kernel)) rfl
theorem wl_365 : Cond.code ({ cls := "HeelsIn", name := "copy", desc := "(IIIII)I" } : MethodName) prog_1_method_4_code 8 (Option.some FieldType.int) ∈ hh_ws := hh_in (List.mem_of_getElem? (i := 474) (by decide +kernel)) rfl
theorem wl_366 : Cond.methodLink "HeelsIn" 113 ({ cls := "java/lang/System", name := "arraycopy", desc := "(Ljava/lang/Object;ILjava/lang/Object;II)V" } : MethodName) ∈ hh_ws := hh_in (List.mem_of_getElem? (i := 475) (by decide +kernel)) rfl
theorem wl_367 : Cond.static ({ cls := "java/lang/System", name := "arraycopy", desc := "(Ljava/lang/Object;ILjava/lang/Object;II)V" } : MethodName) ∈ hh_ws := hh_in (List.mem_of_getElem? (i := 476) (by decide +kernel)) rfl
theorem wl_368 : Cond.native ({ cls := "java/lang/System", name := "arraycopy", desc := "(Ljava/lang/Object;ILjava/lang/Object;II)V" } : MethodName) ∈ hh_ws := hh_in (List.mem_of_getElem? (i := 477) (by decide +kernel)) rfl
theorem wl_370 : Cond.instanceMethod ({ cls := "HeelsIn", name := "drop", desc := "(I)I" } : MethodName) ∈ hh_ws := hh_in (List.mem_of_getElem? (i := 479) (by decide +kernel)) rfl
theorem wl_371 : Cond.selects "HeelsIn" ({ cls := "HeelsIn", name := "drop", desc := "(I)I" } : MethodName) ({ cls := "HeelsIn", name := "drop", desc := "(I)I" } : MethodName) ∈ hh_ws := hh_in (List.mem_of_getElem? (i := 480) (by decide +kernel)) rfl
theorem wl_372 : Cond.code ({ cls := "HeelsIn", name := "drop", desc := "(I)I" } : MethodName) prog_1_method_5_code 3 (Option.some FieldType.int) ∈ hh_ws := hh_in (List.mem_of_getElem? (i := 481) (by decide +kernel)) rfl
theorem wl_374 : Cond.instanceMethod ({ cls := "HeelsIn", name := "feed", desc := "(JI)I" } : MethodName) ∈ hh_ws := hh_in (List.mem_of_getElem? (i := 483) (by decide +kernel)) rfl
theorem wl_375 : Cond.selects "HeelsIn" ({ cls := "HeelsIn", name := "feed", desc := "(JI)I" } : MethodName) ({ cls := "HeelsIn", name := "feed", desc := "(JI)I" } : MethodName) ∈ hh_ws := hh_in (List.mem_of_getElem? (i := 484) (by decide +kernel)) rfl
theorem wl_376 : Cond.code ({ cls := "HeelsIn", name := "feed", desc := "(JI)I" } : MethodName) prog_1_method_6_code 4 (Option.some FieldType.int) ∈ hh_ws := hh_in (List.mem_of_getElem? (i := 485) (by decide +kernel)) rfl
theorem wl_377 : Cond.methodLinkNest "HeelsIn" 122 ({ cls := "HeelsIn$Reader", name := "append", desc := "(JI)Z" } : MethodName) "HeelsIn" ∈ hh_nw := hh_nin (List.mem_of_getElem? (i := 486) (by decide +kernel)) rfl
theorem wl_379 : Cond.instanceMethod ({ cls := "HeelsIn$Reader", name := "append", desc := "(JI)Z" } : MethodName) ∈ hh_ws := hh_in (List.mem_of_getElem? (i := 488) (by decide +kernel)) rfl
theorem wl_380 : Cond.code ({ cls := "HeelsIn$Reader", name := "append", desc := "(JI)Z" } : MethodName) prog_7_method_2_code 5 (Option.some FieldType.boolean) ∈ hh_ws := hh_in (List.mem_of_getElem? (i := 489) (by decide +kernel)) rfl
theorem wl_381 : Cond.constant "HeelsIn" 129 (Int32.ofInt (-1000003)) ∈ hh_ws := hh_in (List.mem_of_getElem? (i := 490) (by decide +kernel)) rfl
theorem wl_383 : Cond.instanceMethod ({ cls := "HeelsIn", name := "match", desc := "()I" } : MethodName) ∈ hh_ws := hh_in (List.mem_of_getElem? (i := 492) (by decide +kernel)) rfl
theorem wl_384 : Cond.selects "HeelsIn" ({ cls := "HeelsIn", name := "match", desc := "()I" } : MethodName) ({ cls := "HeelsIn", name := "match", desc := "()I" } : MethodName) ∈ hh_ws := hh_in (List.mem_of_getElem? (i := 493) (by decide +kernel)) rfl
theorem wl_385 : Cond.code ({ cls := "HeelsIn", name := "match", desc := "()I" } : MethodName) prog_1_method_7_code 2 (Option.some FieldType.int) ∈ hh_ws := hh_in (List.mem_of_getElem? (i := 494) (by decide +kernel)) rfl
theorem wl_386 : Cond.methodLinkNest "HeelsIn" 130 ({ cls := "HeelsIn$Reader", name := "readText", desc := "(LHeelsIn$Match;)Z" } : MethodName) "HeelsIn" ∈ hh_nw := hh_nin (List.mem_of_getElem? (i := 495) (by decide +kernel)) rfl
theorem wl_388 : Cond.instanceMethod ({ cls := "HeelsIn$Reader", name := "readText", desc := "(LHeelsIn$Match;)Z" } : MethodName) ∈ hh_ws := hh_in (List.mem_of_getElem? (i := 497) (by decide +kernel)) rfl
theorem wl_389 : Cond.code ({ cls := "HeelsIn$Reader", name := "readText", desc := "(LHeelsIn$Match;)Z" } : MethodName) prog_7_method_3_code 3 (Option.some FieldType.boolean) ∈ hh_ws := hh_in (List.mem_of_getElem? (i := 498) (by decide +kernel)) rfl
theorem wl_390 : Cond.methodLink "HeelsIn$Reader" 22 ({ cls := "HeelsIn$Reader", name := "advance", desc := "()V" } : MethodName) ∈ hh_ws := hh_in (List.mem_of_getElem? (i := 499) (by decide +kernel)) rfl
theorem wl_392 : Cond.instanceMethod ({ cls := "HeelsIn$Reader", name := "advance", desc := "()V" } : MethodName) ∈ hh_ws := hh_in (List.mem_of_getElem? (i := 501) (by decide +kernel)) rfl
theorem wl_393 : Cond.code ({ cls := "HeelsIn$Reader", name := "advance", desc := "()V" } : MethodName) prog_7_method_14_code 1 (Option.none : Option FieldType) ∈ hh_ws := hh_in (List.mem_of_getElem? (i := 502) (by decide +kernel)) rfl
theorem wl_394 : Cond.methodLink "HeelsIn$Reader" 147 ({ cls := "HeelsIn$Reader", name := "isLetter", desc := "(B)Z" } : MethodName) ∈ hh_ws := hh_in (List.mem_of_getElem? (i := 503) (by decide +kernel)) rfl
theorem wl_395 : Cond.static ({ cls := "HeelsIn$Reader", name := "isLetter", desc := "(B)Z" } : MethodName) ∈ hh_ws := hh_in (List.mem_of_getElem? (i := 504) (by decide +kernel)) rfl
theorem wl_396 : Cond.code ({ cls := "HeelsIn$Reader", name := "isLetter", desc := "(B)Z" } : MethodName) prog_7_method_17_code 1 (Option.some FieldType.boolean) ∈ hh_ws := hh_in (List.mem_of_getElem? (i := 505) (by decide +kernel)) rfl
theorem wl_397 : Cond.methodLink "HeelsIn$Reader" 151 ({ cls := "HeelsIn$Reader", name := "takeName", desc := "()V" } : MethodName) ∈ hh_ws := hh_in (List.mem_of_getElem? (i := 506) (by decide +kernel)) rfl
theorem wl_399 : Cond.instanceMethod ({ cls := "HeelsIn$Reader", name := "takeName", desc := "()V" } : MethodName) ∈ hh_ws := hh_in (List.mem_of_getElem? (i := 508) (by decide +kernel)) rfl
theorem wl_400 : Cond.code ({ cls := "HeelsIn$Reader", name := "takeName", desc := "()V" } : MethodName) prog_7_method_15_code 1 (Option.none : Option FieldType) ∈ hh_ws := hh_in (List.mem_of_getElem? (i := 509) (by decide +kernel)) rfl
theorem wl_401 : Cond.methodLink "HeelsIn$Reader" 154 ({ cls := "HeelsIn$Reader", name := "isFigure", desc := "(B)Z" } : MethodName) ∈ hh_ws := hh_in (List.mem_of_getElem? (i := 510) (by decide +kernel)) rfl
theorem wl_402 : Cond.static ({ cls := "HeelsIn$Reader", name := "isFigure", desc := "(B)Z" } : MethodName) ∈ hh_ws := hh_in (List.mem_of_getElem? (i := 511) (by decide +kernel)) rfl
theorem wl_403 : Cond.code ({ cls := "HeelsIn$Reader", name := "isFigure", desc := "(B)Z" } : MethodName) prog_7_method_18_code 1 (Option.some FieldType.boolean) ∈ hh_ws := hh_in (List.mem_of_getElem? (i := 512) (by decide +kernel)) rfl
theorem wl_404 : Cond.methodLink "HeelsIn$Reader" 157 ({ cls := "HeelsIn$Reader", name := "takeNumber", desc := "()V" } : MethodName) ∈ hh_ws := hh_in (List.mem_of_getElem? (i := 513) (by decide +kernel)) rfl
theorem wl_406 : Cond.instanceMethod ({ cls := "HeelsIn$Reader", name := "takeNumber", desc := "()V" } : MethodName) ∈ hh_ws := hh_in (List.mem_of_getElem? (i := 515) (by decide +kernel)) rfl
theorem wl_407 : Cond.code ({ cls := "HeelsIn$Reader", name := "takeNumber", desc := "()V" } : MethodName) prog_7_method_16_code 3 (Option.none : Option FieldType) ∈ hh_ws := hh_in (List.mem_of_getElem? (i := 516) (by decide +kernel)) rfl
theorem wl_408 : Cond.methodLink "HeelsIn$Reader" 31 ({ cls := "HeelsIn$Reader", name := "readHead", desc := "()Z" } : MethodName) ∈ hh_ws := hh_in (List.mem_of_getElem? (i := 517) (by decide +kernel)) rfl
theorem wl_410 : Cond.instanceMethod ({ cls := "HeelsIn$Reader", name := "readHead", desc := "()Z" } : MethodName) ∈ hh_ws := hh_in (List.mem_of_getElem? (i := 519) (by decide +kernel)) rfl
theorem wl_411 : Cond.code ({ cls := "HeelsIn$Reader", name := "readHead", desc := "()Z" } : MethodName) prog_7_method_4_code 1 (Option.some FieldType.boolean) ∈ hh_ws := hh_in (List.mem_of_getElem? (i := 520) (by decide +kernel)) rfl
theorem wl_413 : Cond.methodLink "HeelsIn$Reader" 59 ({ cls := "HeelsIn$Reader", name := "readWord", desc := "(Ljava/lang/String;)Z" } : MethodName) ∈ hh_ws := hh_in (List.mem_of_getElem? (i := 522) (by decide +kernel)) rfl
theorem wl_415 : Cond.instanceMethod ({ cls := "HeelsIn$Reader", name := "readWord", desc := "(Ljava/lang/String;)Z" } : MethodName) ∈ hh_ws := hh_in (List.mem_of_getElem? (i := 524) (by decide +kernel)) rfl
theorem wl_416 : Cond.code ({ cls := "HeelsIn$Reader", name := "readWord", desc := "(Ljava/lang/String;)Z" } : MethodName) prog_7_method_8_code 2 (Option.some FieldType.boolean) ∈ hh_ws := hh_in (List.mem_of_getElem? (i := 525) (by decide +kernel)) rfl
theorem wl_417 : Cond.methodLink "HeelsIn$Reader" 68 ({ cls := "HeelsIn$Reader", name := "isName", desc := "(Ljava/lang/String;)Z" } : MethodName) ∈ hh_ws := hh_in (List.mem_of_getElem? (i := 526) (by decide +kernel)) rfl
theorem wl_419 : Cond.instanceMethod ({ cls := "HeelsIn$Reader", name := "isName", desc := "(Ljava/lang/String;)Z" } : MethodName) ∈ hh_ws := hh_in (List.mem_of_getElem? (i := 528) (by decide +kernel)) rfl
theorem wl_420 : Cond.code ({ cls := "HeelsIn$Reader", name := "isName", desc := "(Ljava/lang/String;)Z" } : MethodName) prog_7_method_13_code 3 (Option.some FieldType.boolean) ∈ hh_ws := hh_in (List.mem_of_getElem? (i := 529) (by decide +kernel)) rfl
theorem wl_421 : Cond.methodLink "HeelsIn$Reader" 137 ({ cls := "java/lang/String", name := "length", desc := "()I" } : MethodName) ∈ hh_ws := hh_in (List.mem_of_getElem? (i := 530) (by decide +kernel)) rfl
theorem wl_422 : Cond.instanceMethod ({ cls := "java/lang/String", name := "length", desc := "()I" } : MethodName) ∈ hh_ws := hh_in (List.mem_of_getElem? (i := 531) (by decide +kernel)) rfl
theorem wl_423 : Cond.selects "java/lang/String" ({ cls := "java/lang/String", name := "length", desc := "()I" } : MethodName) ({ cls := "java/lang/String", name := "length", desc := "()I" } : MethodName) ∈ hh_ws := hh_in (List.mem_of_getElem? (i := 532) (by decide +kernel)) rfl
theorem wl_424 : Cond.code ({ cls := "java/lang/String", name := "length", desc := "()I" } : MethodName) prog_15_method_54_code 1 (Option.some FieldType.int) ∈ hh_ws := hh_in (List.mem_of_getElem? (i := 533) (by decide +kernel)) rfl
theorem wl_425 : Cond.methodLink "java/lang/String" 335 ({ cls := "java/lang/String", name := "coder", desc := "()B" } : MethodName) ∈ hh_ws := hh_in (List.mem_of_getElem? (i := 534) (by decide +kernel)) rfl
theorem wl_426 : Cond.instanceMethod ({ cls := "java/lang/String", name := "coder", desc := "()B" } : MethodName) ∈ hh_ws := hh_in (List.mem_of_getElem? (i := 535) (by decide +kernel)) rfl
theorem wl_427 : Cond.selects "java/lang/String" ({ cls := "java/lang/String", name := "coder", desc := "()B" } : MethodName) ({ cls := "java/lang/String", name := "coder", desc := "()B" } : MethodName) ∈ hh_ws := hh_in (List.mem_of_getElem? (i := 536) (by decide +kernel)) rfl
theorem wl_428 : Cond.code ({ cls := "java/lang/String", name := "coder", desc := "()B" } : MethodName) prog_15_method_152_code 1 (Option.some FieldType.byte) ∈ hh_ws := hh_in (List.mem_of_getElem? (i := 537) (by decide +kernel)) rfl
theorem wl_429 : Cond.fieldLink "java/lang/String" 38 "java/lang/String" "COMPACT_STRINGS" "Z" ∈ hh_ws := hh_in (List.mem_of_getElem? (i := 538) (by decide +kernel)) rfl
theorem wl_431 : Cond.methodLink "HeelsIn$Reader" 143 ({ cls := "java/lang/String", name := "charAt", desc := "(I)C" } : MethodName) ∈ hh_ws := hh_in (List.mem_of_getElem? (i := 540) (by decide +kernel)) rfl
theorem wl_432 : Cond.instanceMethod ({ cls := "java/lang/String", name := "charAt", desc := "(I)C" } : MethodName) ∈ hh_ws := hh_in (List.mem_of_getElem? (i := 541) (by decide +kernel)) rfl
theorem wl_433 : Cond.selects "java/lang/String" ({ cls := "java/lang/String", name := "charAt", desc := "(I)C" } : MethodName) ({ cls := "java/lang/String", name := "charAt", desc := "(I)C" } : MethodName) ∈ hh_ws := hh_in (List.mem_of_getElem? (i := 542) (by decide +kernel)) rfl
theorem wl_434 : Cond.code ({ cls := "java/lang/String", name := "charAt", desc := "(I)C" } : MethodName) prog_15_method_56_code 2 (Option.some FieldType.char) ∈ hh_ws := hh_in (List.mem_of_getElem? (i := 543) (by decide +kernel)) rfl
theorem wl_435 : Cond.methodLink "java/lang/String" 492 ({ cls := "java/lang/String", name := "isLatin1", desc := "()Z" } : MethodName) ∈ hh_ws := hh_in (List.mem_of_getElem? (i := 544) (by decide +kernel)) rfl
theorem wl_436 : Cond.instanceMethod ({ cls := "java/lang/String", name := "isLatin1", desc := "()Z" } : MethodName) ∈ hh_ws := hh_in (List.mem_of_getElem? (i := 545) (by decide +kernel)) rfl
theorem wl_437 : Cond.selects "java/lang/String" ({ cls := "java/lang/String", name := "isLatin1", desc := "()Z" } : MethodName) ({ cls := "java/lang/String", name := "isLatin1", desc := "()Z" } : MethodName) ∈ hh_ws := hh_in (List.mem_of_getElem? (i := 546) (by decide +kernel)) rfl
theorem wl_438 : Cond.code ({ cls := "java/lang/String", name := "isLatin1", desc := "()Z" } : MethodName) prog_15_method_154_code 1 (Option.some FieldType.boolean) ∈ hh_ws := hh_in (List.mem_of_getElem? (i := 547) (by decide +kernel)) rfl
theorem wl_439 : Cond.methodLink "java/lang/String" 495 ({ cls := "java/lang/StringLatin1", name := "charAt", desc := "([BI)C" } : MethodName) ∈ hh_ws := hh_in (List.mem_of_getElem? (i := 548) (by decide +kernel)) rfl
theorem wl_440 : Cond.static ({ cls := "java/lang/StringLatin1", name := "charAt", desc := "([BI)C" } : MethodName) ∈ hh_ws := hh_in (List.mem_of_getElem? (i := 549) (by decide +kernel)) rfl
theorem wl_441 : Cond.code ({ cls := "java/lang/StringLatin1", name := "charAt", desc := "([BI)C" } : MethodName) prog_16_method_2_code 2 (Option.some FieldType.char) ∈ hh_ws := hh_in (List.mem_of_getElem? (i := 550) (by decide +kernel)) rfl
theorem wl_442 : Cond.methodLink "java/lang/StringLatin1" 9 ({ cls := "java/lang/String", name := "checkIndex", desc := "(II)V" } : MethodName) ∈ hh_ws := hh_in (List.mem_of_getElem? (i := 551) (by decide +kernel)) rfl
theorem wl_443 : Cond.static ({ cls := "java/lang/String", name := "checkIndex", desc := "(II)V" } : MethodName) ∈ hh_ws := hh_in (List.mem_of_getElem? (i := 552) (by decide +kernel)) rfl
theorem wl_444 : Cond.code ({ cls := "java/lang/String", name := "checkIndex", desc := "(II)V" } : MethodName) prog_15_method_155_code 2 (Option.none : Option FieldType) ∈ hh_ws := hh_in (List.mem_of_getElem? (i := 553) (by decide +kernel)) rfl
theorem wl_445 : Cond.fieldLink "java/lang/String" 1053 "jdk/internal/util/Preconditions" "SIOOBE_FORMATTER" "Ljava/util/function/BiFunction;" ∈ hh_ws := hh_in (List.mem_of_getElem? (i := 554) (by decide +kernel)) rfl
theorem wl_447 : Cond.methodLink "java/lang/String" 1059 ({ cls := "jdk/internal/util/Preconditions", name := "checkIndex", desc := "(IILjava/util/function/BiFunction;)I" } : MethodName) ∈ hh_ws := hh_in (List.mem_of_getElem? (i := 556) (by decide +kernel)) rfl
theorem wl_448 : Cond.static ({ cls := "jdk/internal/util/Preconditions", name := "checkIndex", desc := "(IILjava/util/function/BiFunction;)I" } : MethodName) ∈ hh_ws := hh_in (List.mem_of_getElem? (i := 557) (by decide +kernel)) rfl
theorem wl_449 : Cond.code ({ cls := "jdk/internal/util/Preconditions", name := "checkIndex", desc := "(IILjava/util/function/BiFunction;)I" } : MethodName) prog_19_method_11_code 3 (Option.some FieldType.int) ∈ hh_ws := hh_in (List.mem_of_getElem? (i := 558) (by decide +kernel)) rfl
theorem wl_469 : Cond.methodLink "HeelsIn$Reader" 53 ({ cls := "HeelsIn$Reader", name := "refuse", desc := "(I)Z" } : MethodName) ∈ hh_ws := hh_in (List.mem_of_getElem? (i := 578) (by decide +kernel)) rfl
theorem wl_471 : Cond.instanceMethod ({ cls := "HeelsIn$Reader", name := "refuse", desc := "(I)Z" } : MethodName) ∈ hh_ws := hh_in (List.mem_of_getElem? (i := 580) (by decide +kernel)) rfl
theorem wl_472 : Cond.code ({ cls := "HeelsIn$Reader", name := "refuse", desc := "(I)Z" } : MethodName) prog_7_method_12_code 2 (Option.some FieldType.boolean) ∈ hh_ws := hh_in (List.mem_of_getElem? (i := 581) (by decide +kernel)) rfl
theorem wl_473 : Cond.methodLink "HeelsIn$Reader" 63 ({ cls := "HeelsIn$Reader", name := "readSign", desc := "()Z" } : MethodName) ∈ hh_ws := hh_in (List.mem_of_getElem? (i := 582) (by decide +kernel)) rfl
theorem wl_475 : Cond.instanceMethod ({ cls := "HeelsIn$Reader", name := "readSign", desc := "()Z" } : MethodName) ∈ hh_ws := hh_in (List.mem_of_getElem? (i := 584) (by decide +kernel)) rfl
theorem wl_476 : Cond.code ({ cls := "HeelsIn$Reader", name := "readSign", desc := "()Z" } : MethodName) prog_7_method_9_code 1 (Option.some FieldType.boolean) ∈ hh_ws := hh_in (List.mem_of_getElem? (i := 585) (by decide +kernel)) rfl
theorem wl_478 : Cond.methodLink "HeelsIn$Reader" 39 ({ cls := "HeelsIn$Reader", name := "readPullers", desc := "(LHeelsIn$Side;)Z" } : MethodName) ∈ hh_ws := hh_in (List.mem_of_getElem? (i := 587) (by decide +kernel)) rfl
theorem wl_480 : Cond.instanceMethod ({ cls := "HeelsIn$Reader", name := "readPullers", desc := "(LHeelsIn$Side;)Z" } : MethodName) ∈ hh_ws := hh_in (List.mem_of_getElem? (i := 589) (by decide +kernel)) rfl
theorem wl_481 : Cond.code ({ cls := "HeelsIn$Reader", name := "readPullers", desc := "(LHeelsIn$Side;)Z" } : MethodName) prog_7_method_5_code 5 (Option.some FieldType.boolean) ∈ hh_ws := hh_in (List.mem_of_getElem? (i := 590) (by decide +kernel)) rfl
theorem wl_482 : Cond.methodLink "HeelsIn$Reader" 80 ({ cls := "HeelsIn$Reader", name := "readNumber", desc := "([IIII)Z" } : MethodName) ∈ hh_ws := hh_in (List.mem_of_getElem? (i := 591) (by decide +kernel)) rfl
theorem wl_484 : Cond.instanceMethod ({ cls := "HeelsIn$Reader", name := "readNumber", desc := "([IIII)Z" } : MethodName) ∈ hh_ws := hh_in (List.mem_of_getElem? (i := 593) (by decide +kernel)) rfl
theorem wl_485 : Cond.code ({ cls := "HeelsIn$Reader", name := "readNumber", desc := "([IIII)Z" } : MethodName) prog_7_method_10_code 5 (Option.some FieldType.boolean) ∈ hh_ws := hh_in (List.mem_of_getElem? (i := 594) (by decide +kernel)) rfl
theorem wl_486 : Cond.methodLink "HeelsIn$Reader" 43 ({ cls := "HeelsIn$Reader", name := "readRules", desc := "(LHeelsIn$Side;)Z" } : MethodName) ∈ hh_ws := hh_in (List.mem_of_getElem? (i := 595) (by decide +kernel)) rfl
theorem wl_488 : Cond.instanceMethod ({ cls := "HeelsIn$Reader", name := "readRules", desc := "(LHeelsIn$Side;)Z" } : MethodName) ∈ hh_ws := hh_in (List.mem_of_getElem? (i := 597) (by decide +kernel)) rfl
theorem wl_489 : Cond.code ({ cls := "HeelsIn$Reader", name := "readRules", desc := "(LHeelsIn$Side;)Z" } : MethodName) prog_7_method_6_code 5 (Option.some FieldType.boolean) ∈ hh_ws := hh_in (List.mem_of_getElem? (i := 598) (by decide +kernel)) rfl
theorem wl_495 : Cond.methodLink "HeelsIn$Reader" 102 ({ cls := "HeelsIn$Reader", name := "readOneOf", desc := "([IILjava/lang/String;Ljava/lang/String;Ljava/lang/String;Ljava/lang/String;)Z" } : MethodName) ∈ hh_ws := hh_in (List.mem_of_getElem? (i := 604) (by decide +kernel)) rfl
theorem wl_497 : Cond.instanceMethod ({ cls := "HeelsIn$Reader", name := "readOneOf", desc := "([IILjava/lang/String;Ljava/lang/String;Ljava/lang/String;Ljava/lang/String;)Z" } : MethodName) ∈ hh_ws := hh_in (List.mem_of_getElem? (i := 606) (by decide +kernel)) rfl
theorem wl_498 : Cond.code ({ cls := "HeelsIn$Reader", name := "readOneOf", desc := "([IILjava/lang/String;Ljava/lang/String;Ljava/lang/String;Ljava/lang/String;)Z" } : MethodName) prog_7_method_11_code 8 (Option.some FieldType.boolean) ∈ hh_ws := hh_in (List.mem_of_getElem? (i := 607) (by decide +kernel)) rfl
theorem wl_506 : Cond.methodLink "HeelsIn$Reader" 46 ({ cls := "HeelsIn$Reader", name := "readGround", desc := "(LHeelsIn$Match;)Z" } : MethodName) ∈ hh_ws := hh_in (List.mem_of_getElem? (i := 615) (by decide +kernel)) rfl
theorem wl_508 : Cond.instanceMethod ({ cls := "HeelsIn$Reader", name := "readGround", desc := "(LHeelsIn$Match;)Z" } : MethodName) ∈ hh_ws := hh_in (List.mem_of_getElem? (i := 617) (by decide +kernel)) rfl
theorem wl_509 : Cond.code ({ cls := "HeelsIn$Reader", name := "readGround", desc := "(LHeelsIn$Match;)Z" } : MethodName) prog_7_method_7_code 2 (Option.some FieldType.boolean) ∈ hh_ws := hh_in (List.mem_of_getElem? (i := 618) (by decide +kernel)) rfl
theorem wl_511 : Cond.constant "HeelsIn" 140 (Int32.ofInt (-1000100)) ∈ hh_ws := hh_in (List.mem_of_getElem? (i := 620) (by decide +kernel)) rfl
theorem wl_512 : Cond.methodLinkNest "HeelsIn" 144 ({ cls := "HeelsIn$Match", name := "become", desc := "(LHeelsIn$Match;)V" } : MethodName) "HeelsIn" ∈ hh_nw := hh_nin (List.mem_of_getElem? (i := 621) (by decide +kernel)) rfl
theorem wl_514 : Cond.instanceMethod ({ cls := "HeelsIn$Match", name := "become", desc := "(LHeelsIn$Match;)V" } : MethodName) ∈ hh_ws := hh_in (List.mem_of_getElem? (i := 623) (by decide +kernel)) rfl
theorem wl_515 : Cond.code ({ cls := "HeelsIn$Match", name := "become", desc := "(LHeelsIn$Match;)V" } : MethodName) prog_5_method_2_code 2 (Option.none : Option FieldType) ∈ hh_ws := hh_in (List.mem_of_getElem? (i := 624) (by decide +kernel)) rfl
theorem wl_516 : Cond.methodLink "HeelsIn$Match" 26 ({ cls := "java/lang/System", name := "arraycopy", desc := "(Ljava/lang/Object;ILjava/lang/Object;II)V" } : MethodName) ∈ hh_ws := hh_in (List.mem_of_getElem? (i := 625) (by decide +kernel)) rfl
theorem wl_517 : Cond.methodLinkNest "HeelsIn$Match" 32 ({ cls := "HeelsIn$Side", name := "become", desc := "(LHeelsIn$Side;)V" } : MethodName) "HeelsIn" ∈ hh_nw := hh_nin (List.mem_of_getElem? (i := 626) (by decide +kernel)) rfl
theorem wl_519 : Cond.instanceMethod ({ cls := "HeelsIn$Side", name := "become", desc := "(LHeelsIn$Side;)V" } : MethodName) ∈ hh_ws := hh_in (List.mem_of_getElem? (i := 628) (by decide +kernel)) rfl
theorem wl_520 : Cond.code ({ cls := "HeelsIn$Side", name := "become", desc := "(LHeelsIn$Side;)V" } : MethodName) prog_9_method_2_code 3 (Option.none : Option FieldType) ∈ hh_ws := hh_in (List.mem_of_getElem? (i := 629) (by decide +kernel)) rfl
theorem wl_521 : Cond.methodLink "HeelsIn$Side" 28 ({ cls := "java/lang/System", name := "arraycopy", desc := "(Ljava/lang/Object;ILjava/lang/Object;II)V" } : MethodName) ∈ hh_ws := hh_in (List.mem_of_getElem? (i := 630) (by decide +kernel)) rfl
theorem wl_522 : Cond.methodLinkNest "HeelsIn" 148 ({ cls := "HeelsIn$Tug", name := "layGround", desc := "(LHeelsIn$Match;)V" } : MethodName) "HeelsIn" ∈ hh_nw := hh_nin (List.mem_of_getElem? (i := 631) (by decide +kernel)) rfl
theorem wl_524 : Cond.instanceMethod ({ cls := "HeelsIn$Tug", name := "layGround", desc := "(LHeelsIn$Match;)V" } : MethodName) ∈ hh_ws := hh_in (List.mem_of_getElem? (i := 633) (by decide +kernel)) rfl
theorem wl_525 : Cond.code ({ cls := "HeelsIn$Tug", name := "layGround", desc := "(LHeelsIn$Match;)V" } : MethodName) prog_10_method_3_code 2 (Option.none : Option FieldType) ∈ hh_ws := hh_in (List.mem_of_getElem? (i := 634) (by decide +kernel)) rfl
theorem wl_526 : Cond.methodLinkNest "HeelsIn" 151 ({ cls := "HeelsIn$Match", name := "pullers", desc := "()I" } : MethodName) "HeelsIn" ∈ hh_nw := hh_nin (List.mem_of_getElem? (i := 635) (by decide +kernel)) rfl
theorem wl_528 : Cond.instanceMethod ({ cls := "HeelsIn$Match", name := "pullers", desc := "()I" } : MethodName) ∈ hh_ws := hh_in (List.mem_of_getElem? (i := 637) (by decide +kernel)) rfl
theorem wl_529 : Cond.code ({ cls := "HeelsIn$Match", name := "pullers", desc := "()I" } : MethodName) prog_5_method_3_code 1 (Option.some FieldType.int) ∈ hh_ws := hh_in (List.mem_of_getElem? (i := 638) (by decide +kernel)) rfl
theorem wl_531 : Cond.instanceMethod ({ cls := "HeelsIn", name := "fault", desc := "()I" } : MethodName) ∈ hh_ws := hh_in (List.mem_of_getElem? (i := 640) (by decide +kernel)) rfl
theorem wl_532 : Cond.selects "HeelsIn" ({ cls := "HeelsIn", name := "fault", desc := "()I" } : MethodName) ({ cls := "HeelsIn", name := "fault", desc := "()I" } : MethodName) ∈ hh_ws := hh_in (List.mem_of_getElem? (i := 641) (by decide +kernel)) rfl
theorem wl_533 : Cond.code ({ cls := "HeelsIn", name := "fault", desc := "()I" } : MethodName) prog_1_method_8_code 1 (Option.some FieldType.int) ∈ hh_ws := hh_in (List.mem_of_getElem? (i := 642) (by decide +kernel)) rfl
theorem wl_535 : Cond.instanceMethod ({ cls := "HeelsIn", name := "puller", desc := "(III)I" } : MethodName) ∈ hh_ws := hh_in (List.mem_of_getElem? (i := 644) (by decide +kernel)) rfl
theorem wl_536 : Cond.selects "HeelsIn" ({ cls := "HeelsIn", name := "puller", desc := "(III)I" } : MethodName) ({ cls := "HeelsIn", name := "puller", desc := "(III)I" } : MethodName) ∈ hh_ws := hh_in (List.mem_of_getElem? (i := 645) (by decide +kernel)) rfl
theorem wl_537 : Cond.code ({ cls := "HeelsIn", name := "puller", desc := "(III)I" } : MethodName) prog_1_method_9_code 4 (Option.some FieldType.int) ∈ hh_ws := hh_in (List.mem_of_getElem? (i := 646) (by decide +kernel)) rfl
theorem wl_538 : Cond.methodLink "HeelsIn" 155 ({ cls := "HeelsIn", name := "isPuller", desc := "(II)Z" } : MethodName) ∈ hh_ws := hh_in (List.mem_of_getElem? (i := 647) (by decide +kernel)) rfl
theorem wl_540 : Cond.instanceMethod ({ cls := "HeelsIn", name := "isPuller", desc := "(II)Z" } : MethodName) ∈ hh_ws := hh_in (List.mem_of_getElem? (i := 649) (by decide +kernel)) rfl
theorem wl_541 : Cond.code ({ cls := "HeelsIn", name := "isPuller", desc := "(II)Z" } : MethodName) prog_1_method_34_code 3 (Option.some FieldType.boolean) ∈ hh_ws := hh_in (List.mem_of_getElem? (i := 650) (by decide +kernel)) rfl
theorem wl_543 : Cond.instanceMethod ({ cls := "HeelsIn", name := "begin", desc := "(I)I" } : MethodName) ∈ hh_ws := hh_in (List.mem_of_getElem? (i := 652) (by decide +kernel)) rfl
theorem wl_544 : Cond.selects "HeelsIn" ({ cls := "HeelsIn", name := "begin", desc := "(I)I" } : MethodName) ({ cls := "HeelsIn", name := "begin", desc := "(I)I" } : MethodName) ∈ hh_ws := hh_in (List.mem_of_getElem? (i := 653) (by decide +kernel)) rfl
theorem wl_545 : Cond.code ({ cls := "HeelsIn", name := "begin", desc := "(I)I" } : MethodName) prog_1_method_10_code 2 (Option.some FieldType.int) ∈ hh_ws := hh_in (List.mem_of_getElem? (i := 654) (by decide +kernel)) rfl
theorem wl_546 : Cond.constant "HeelsIn" 171 (Int32.ofInt (-1000002)) ∈ hh_ws := hh_in (List.mem_of_getElem? (i := 655) (by decide +kernel)) rfl
theorem wl_547 : Cond.methodLinkNest "HeelsIn" 172 ({ cls := "HeelsIn$Tug", name := "beginPull", desc := "(LHeelsIn$Match;I)V" } : MethodName) "HeelsIn" ∈ hh_nw := hh_nin (List.mem_of_getElem? (i := 656) (by decide +kernel)) rfl
theorem wl_549 : Cond.instanceMethod ({ cls := "HeelsIn$Tug", name := "beginPull", desc := "(LHeelsIn$Match;I)V" } : MethodName) ∈ hh_ws := hh_in (List.mem_of_getElem? (i := 658) (by decide +kernel)) rfl
theorem wl_550 : Cond.code ({ cls := "HeelsIn$Tug", name := "beginPull", desc := "(LHeelsIn$Match;I)V" } : MethodName) prog_10_method_4_code 5 (Option.none : Option FieldType) ∈ hh_ws := hh_in (List.mem_of_getElem? (i := 659) (by decide +kernel)) rfl
theorem wl_551 : Cond.constant "HeelsIn$Tug" 63 (Int32.ofInt (-1000000)) ∈ hh_ws := hh_in (List.mem_of_getElem? (i := 660) (by decide +kernel)) rfl
theorem wl_553 : Cond.instanceMethod ({ cls := "HeelsIn", name := "go", desc := "(I)I" } : MethodName) ∈ hh_ws := hh_in (List.mem_of_getElem? (i := 662) (by decide +kernel)) rfl
theorem wl_554 : Cond.selects "HeelsIn" ({ cls := "HeelsIn", name := "go", desc := "(I)I" } : MethodName) ({ cls := "HeelsIn", name := "go", desc := "(I)I" } : MethodName) ∈ hh_ws := hh_in (List.mem_of_getElem? (i := 663) (by decide +kernel)) rfl
theorem wl_555 : Cond.code ({ cls := "HeelsIn", name := "go", desc := "(I)I" } : MethodName) prog_1_method_11_code 2 (Option.some FieldType.int) ∈ hh_ws := hh_in (List.mem_of_getElem? (i := 664) (by decide +kernel)) rfl
theorem wl_556 : Cond.methodLinkNest "HeelsIn" 179 ({ cls := "HeelsIn$Tug", name := "goByRules", desc := "(LHeelsIn$Match;I)I" } : MethodName) "HeelsIn" ∈ hh_nw := hh_nin (List.mem_of_getElem? (i := 665) (by decide +kernel)) rfl
theorem wl_558 : Cond.instanceMethod ({ cls := "HeelsIn$Tug", name := "goByRules", desc := "(LHeelsIn$Match;I)I" } : MethodName) ∈ hh_ws := hh_in (List.mem_of_getElem? (i := 667) (by decide +kernel)) rfl
theorem wl_559 : Cond.code ({ cls := "HeelsIn$Tug", name := "goByRules", desc := "(LHeelsIn$Match;I)I" } : MethodName) prog_10_method_5_code 4 (Option.some FieldType.int) ∈ hh_ws := hh_in (List.mem_of_getElem? (i := 668) (by decide +kernel)) rfl
theorem wl_560 : Cond.methodLink "HeelsIn$Tug" 76 ({ cls := "HeelsIn$Tug", name := "orderByRules", desc := "(LHeelsIn$Match;I)I" } : MethodName) ∈ hh_ws := hh_in (List.mem_of_getElem? (i := 669) (by decide +kernel)) rfl
theorem wl_562 : Cond.instanceMethod ({ cls := "HeelsIn$Tug", name := "orderByRules", desc := "(LHeelsIn$Match;I)I" } : MethodName) ∈ hh_ws := hh_in (List.mem_of_getElem? (i := 671) (by decide +kernel)) rfl
theorem wl_563 : Cond.code ({ cls := "HeelsIn$Tug", name := "orderByRules", desc := "(LHeelsIn$Match;I)I" } : MethodName) prog_10_method_7_code 7 (Option.some FieldType.int) ∈ hh_ws := hh_in (List.mem_of_getElem? (i := 672) (by decide +kernel)) rfl
theorem wl_564 : Cond.methodLink "HeelsIn$Tug" 95 ({ cls := "HeelsIn$Tug", name := "feltBy", desc := "(LHeelsIn$Match;II)I" } : MethodName) ∈ hh_ws := hh_in (List.mem_of_getElem? (i := 673) (by decide +kernel)) rfl
theorem wl_566 : Cond.instanceMethod ({ cls := "HeelsIn$Tug", name := "feltBy", desc := "(LHeelsIn$Match;II)I" } : MethodName) ∈ hh_ws := hh_in (List.mem_of_getElem? (i := 675) (by decide +kernel)) rfl
theorem wl_567 : Cond.code ({ cls := "HeelsIn$Tug", name := "feltBy", desc := "(LHeelsIn$Match;II)I" } : MethodName) prog_10_method_8_code 4 (Option.some FieldType.int) ∈ hh_ws := hh_in (List.mem_of_getElem? (i := 676) (by decide +kernel)) rfl
theorem wl_568 : Cond.methodLink "HeelsIn$Tug" 99 ({ cls := "HeelsIn$Tug", name := "meanBreath", desc := "(LHeelsIn$Match;I)I" } : MethodName) ∈ hh_ws := hh_in (List.mem_of_getElem? (i := 677) (by decide +kernel)) rfl
theorem wl_570 : Cond.instanceMethod ({ cls := "HeelsIn$Tug", name := "meanBreath", desc := "(LHeelsIn$Match;I)I" } : MethodName) ∈ hh_ws := hh_in (List.mem_of_getElem? (i := 679) (by decide +kernel)) rfl
theorem wl_571 : Cond.code ({ cls := "HeelsIn$Tug", name := "meanBreath", desc := "(LHeelsIn$Match;I)I" } : MethodName) prog_10_method_9_code 6 (Option.some FieldType.int) ∈ hh_ws := hh_in (List.mem_of_getElem? (i := 680) (by decide +kernel)) rfl
theorem wl_572 : Cond.methodLink "HeelsIn$Tug" 80 ({ cls := "HeelsIn$Tug", name := "goTenth", desc := "(LHeelsIn$Match;II)V" } : MethodName) ∈ hh_ws := hh_in (List.mem_of_getElem? (i := 681) (by decide +kernel)) rfl
theorem wl_574 : Cond.instanceMethod ({ cls := "HeelsIn$Tug", name := "goTenth", desc := "(LHeelsIn$Match;II)V" } : MethodName) ∈ hh_ws := hh_in (List.mem_of_getElem? (i := 683) (by decide +kernel)) rfl
theorem wl_575 : Cond.code ({ cls := "HeelsIn$Tug", name := "goTenth", desc := "(LHeelsIn$Match;II)V" } : MethodName) prog_10_method_10_code 7 (Option.none : Option FieldType) ∈ hh_ws := hh_in (List.mem_of_getElem? (i := 684) (by decide +kernel)) rfl
theorem wl_576 : Cond.methodLink "HeelsIn$Tug" 102 ({ cls := "HeelsIn$Tug", name := "forceOfSide", desc := "(LHeelsIn$Match;IZ)I" } : MethodName) ∈ hh_ws := hh_in (List.mem_of_getElem? (i := 685) (by decide +kernel)) rfl
theorem wl_578 : Cond.instanceMethod ({ cls := "HeelsIn$Tug", name := "forceOfSide", desc := "(LHeelsIn$Match;IZ)I" } : MethodName) ∈ hh_ws := hh_in (List.mem_of_getElem? (i := 687) (by decide +kernel)) rfl
theorem wl_579 : Cond.code ({ cls := "HeelsIn$Tug", name := "forceOfSide", desc := "(LHeelsIn$Match;IZ)I" } : MethodName) prog_10_method_11_code 6 (Option.some FieldType.int) ∈ hh_ws := hh_in (List.mem_of_getElem? (i := 688) (by decide +kernel)) rfl
theorem wl_580 : Cond.methodLink "HeelsIn$Tug" 118 ({ cls := "HeelsIn$Tug", name := "doTenth", desc := "([IIIZ)V" } : MethodName) ∈ hh_ws := hh_in (List.mem_of_getElem? (i := 689) (by decide +kernel)) rfl
theorem wl_582 : Cond.instanceMethod ({ cls := "HeelsIn$Tug", name := "doTenth", desc := "([IIIZ)V" } : MethodName) ∈ hh_ws := hh_in (List.mem_of_getElem? (i := 691) (by decide +kernel)) rfl
theorem wl_583 : Cond.code ({ cls := "HeelsIn$Tug", name := "doTenth", desc := "([IIIZ)V" } : MethodName) prog_10_method_12_code 7 (Option.none : Option FieldType) ∈ hh_ws := hh_in (List.mem_of_getElem? (i := 692) (by decide +kernel)) rfl
theorem wl_584 : Cond.methodLink "HeelsIn$Tug" 126 ({ cls := "HeelsIn$Tug", name := "orderAt", desc := "(II)I" } : MethodName) ∈ hh_ws := hh_in (List.mem_of_getElem? (i := 693) (by decide +kernel)) rfl
theorem wl_586 : Cond.instanceMethod ({ cls := "HeelsIn$Tug", name := "orderAt", desc := "(II)I" } : MethodName) ∈ hh_ws := hh_in (List.mem_of_getElem? (i := 695) (by decide +kernel)) rfl
theorem wl_587 : Cond.code ({ cls := "HeelsIn$Tug", name := "orderAt", desc := "(II)I" } : MethodName) prog_10_method_13_code 3 (Option.some FieldType.int) ∈ hh_ws := hh_in (List.mem_of_getElem? (i := 696) (by decide +kernel)) rfl
theorem wl_588 : Cond.fieldLink "HeelsIn$Tug" 129 "HeelsIn$Tug" "BREATH_TAKEN" "[I" ∈ hh_ws := hh_in (List.mem_of_getElem? (i := 697) (by decide +kernel)) rfl
theorem wl_590 : Cond.methodLink "HeelsIn$Tug" 109 ({ cls := "java/lang/Math", name := "min", desc := "(II)I" } : MethodName) ∈ hh_ws := hh_in (List.mem_of_getElem? (i := 699) (by decide +kernel)) rfl
theorem wl_591 : Cond.static ({ cls := "java/lang/Math", name := "min", desc := "(II)I" } : MethodName) ∈ hh_ws := hh_in (List.mem_of_getElem? (i := 700) (by decide +kernel)) rfl
theorem wl_592 : Cond.code ({ cls := "java/lang/Math", name := "min", desc := "(II)I" } : MethodName) prog_14_method_69_code 2 (Option.some FieldType.int) ∈ hh_ws := hh_in (List.mem_of_getElem? (i := 701) (by decide +kernel)) rfl
theorem wl_593 : Cond.methodLink "HeelsIn$Tug" 132 ({ cls := "HeelsIn$Tug", name := "forceOf", desc := "([IIZ)I" } : MethodName) ∈ hh_ws := hh_in (List.mem_of_getElem? (i := 702) (by decide +kernel)) rfl
theorem wl_594 : Cond.static ({ cls := "HeelsIn$Tug", name := "forceOf", desc := "([IIZ)I" } : MethodName) ∈ hh_ws := hh_in (List.mem_of_getElem? (i := 703) (by decide +kernel)) rfl
theorem wl_595 : Cond.code ({ cls := "HeelsIn$Tug", name := "forceOf", desc := "([IIZ)I" } : MethodName) prog_10_method_14_code 3 (Option.some FieldType.int) ∈ hh_ws := hh_in (List.mem_of_getElem? (i := 704) (by decide +kernel)) rfl
theorem wl_596 : Cond.methodLink "HeelsIn$Tug" 122 ({ cls := "HeelsIn$Tug", name := "endUnder", desc := "(I)I" } : MethodName) ∈ hh_ws := hh_in (List.mem_of_getElem? (i := 705) (by decide +kernel)) rfl
theorem wl_598 : Cond.instanceMethod ({ cls := "HeelsIn$Tug", name := "endUnder", desc := "(I)I" } : MethodName) ∈ hh_ws := hh_in (List.mem_of_getElem? (i := 707) (by decide +kernel)) rfl
theorem wl_599 : Cond.code ({ cls := "HeelsIn$Tug", name := "endUnder", desc := "(I)I" } : MethodName) prog_10_method_15_code 2 (Option.some FieldType.int) ∈ hh_ws := hh_in (List.mem_of_getElem? (i := 708) (by decide +kernel)) rfl
theorem wl_600 : Cond.methodLink "HeelsIn$Tug" 106 ({ cls := "HeelsIn$Tug", name := "wearEnd", desc := "(LHeelsIn$Match;II)V" } : MethodName) ∈ hh_ws := hh_in (List.mem_of_getElem? (i := 709) (by decide +kernel)) rfl
theorem wl_602 : Cond.instanceMethod ({ cls := "HeelsIn$Tug", name := "wearEnd", desc := "(LHeelsIn$Match;II)V" } : MethodName) ∈ hh_ws := hh_in (List.mem_of_getElem? (i := 711) (by decide +kernel)) rfl
theorem wl_603 : Cond.code ({ cls := "HeelsIn$Tug", name := "wearEnd", desc := "(LHeelsIn$Match;II)V" } : MethodName) prog_10_method_16_code 5 (Option.none : Option FieldType) ∈ hh_ws := hh_in (List.mem_of_getElem? (i := 712) (by decide +kernel)) rfl
theorem wl_604 : Cond.methodLink "HeelsIn$Tug" 115 ({ cls := "java/lang/Math", name := "max", desc := "(II)I" } : MethodName) ∈ hh_ws := hh_in (List.mem_of_getElem? (i := 713) (by decide +kernel)) rfl
theorem wl_605 : Cond.static ({ cls := "java/lang/Math", name := "max", desc := "(II)I" } : MethodName) ∈ hh_ws := hh_in (List.mem_of_getElem? (i := 714) (by decide +kernel)) rfl
theorem wl_606 : Cond.code ({ cls := "java/lang/Math", name := "max", desc := "(II)I" } : MethodName) prog_14_method_65_code 2 (Option.some FieldType.int) ∈ hh_ws := hh_in (List.mem_of_getElem? (i := 715) (by decide +kernel)) rfl
theorem wl_608 : Cond.instanceMethod ({ cls := "HeelsIn", name := "told", desc := "(III)I" } : MethodName) ∈ hh_ws := hh_in (List.mem_of_getElem? (i := 717) (by decide +kernel)) rfl
theorem wl_609 : Cond.selects "HeelsIn" ({ cls := "HeelsIn", name := "told", desc := "(III)I" } : MethodName) ({ cls := "HeelsIn", name := "told", desc := "(III)I" } : MethodName) ∈ hh_ws := hh_in (List.mem_of_getElem? (i := 718) (by decide +kernel)) rfl
theorem wl_610 : Cond.code ({ cls := "HeelsIn", name := "told", desc := "(III)I" } : MethodName) prog_1_method_12_code 5 (Option.some FieldType.int) ∈ hh_ws := hh_in (List.mem_of_getElem? (i := 719) (by decide +kernel)) rfl
theorem wl_611 : Cond.methodLink "HeelsIn" 183 ({ cls := "HeelsIn", name := "areOrders", desc := "(LHeelsIn$Sheet;II)Z" } : MethodName) ∈ hh_ws := hh_in (List.mem_of_getElem? (i := 720) (by decide +kernel)) rfl
theorem wl_612 : Cond.static ({ cls := "HeelsIn", name := "areOrders", desc := "(LHeelsIn$Sheet;II)Z" } : MethodName) ∈ hh_ws := hh_in (List.mem_of_getElem? (i := 721) (by decide +kernel)) rfl
theorem wl_613 : Cond.code ({ cls := "HeelsIn", name := "areOrders", desc := "(LHeelsIn$Sheet;II)Z" } : MethodName) prog_1_method_37_code 4 (Option.some FieldType.boolean) ∈ hh_ws := hh_in (List.mem_of_getElem? (i := 722) (by decide +kernel)) rfl
theorem wl_614 : Cond.methodLinkNest "HeelsIn" 187 ({ cls := "HeelsIn$Tug", name := "goAsTold", desc := "(LHeelsIn$Match;LHeelsIn$Sheet;II)I" } : MethodName) "HeelsIn" ∈ hh_nw := hh_nin (List.mem_of_getElem? (i := 723) (by decide +kernel)) rfl
theorem wl_616 : Cond.instanceMethod ({ cls := "HeelsIn$Tug", name := "goAsTold", desc := "(LHeelsIn$Match;LHeelsIn$Sheet;II)I" } : MethodName) ∈ hh_ws := hh_in (List.mem_of_getElem? (i := 725) (by decide +kernel)) rfl
theorem wl_617 : Cond.code ({ cls := "HeelsIn$Tug", name := "goAsTold", desc := "(LHeelsIn$Match;LHeelsIn$Sheet;II)I" } : MethodName) prog_10_method_6_code 6 (Option.some FieldType.int) ∈ hh_ws := hh_in (List.mem_of_getElem? (i := 726) (by decide +kernel)) rfl
theorem wl_619 : Cond.instanceMethod ({ cls := "HeelsIn", name := "pull", desc := "(I)I" } : MethodName) ∈ hh_ws := hh_in (List.mem_of_getElem? (i := 728) (by decide +kernel)) rfl
theorem wl_620 : Cond.selects "HeelsIn" ({ cls := "HeelsIn", name := "pull", desc := "(I)I" } : MethodName) ({ cls := "HeelsIn", name := "pull", desc := "(I)I" } : MethodName) ∈ hh_ws := hh_in (List.mem_of_getElem? (i := 729) (by decide +kernel)) rfl
theorem wl_621 : Cond.code ({ cls := "HeelsIn", name := "pull", desc := "(I)I" } : MethodName) prog_1_method_13_code 2 (Option.some FieldType.int) ∈ hh_ws := hh_in (List.mem_of_getElem? (i := 730) (by decide +kernel)) rfl
theorem wl_622 : Cond.methodLinkNest "HeelsIn" 191 ({ cls := "HeelsIn$Tug", name := "state", desc := "(I)I" } : MethodName) "HeelsIn" ∈ hh_nw := hh_nin (List.mem_of_getElem? (i := 731) (by decide +kernel)) rfl
theorem wl_624 : Cond.instanceMethod ({ cls := "HeelsIn$Tug", name := "state", desc := "(I)I" } : MethodName) ∈ hh_ws := hh_in (List.mem_of_getElem? (i := 733) (by decide +kernel)) rfl
theorem wl_625 : Cond.code ({ cls := "HeelsIn$Tug", name := "state", desc := "(I)I" } : MethodName) prog_10_method_17_code 2 (Option.some FieldType.int) ∈ hh_ws := hh_in (List.mem_of_getElem? (i := 734) (by decide +kernel)) rfl
theorem wl_627 : Cond.instanceMethod ({ cls := "HeelsIn", name := "doing", desc := "(III)I" } : MethodName) ∈ hh_ws := hh_in (List.mem_of_getElem? (i := 736) (by decide +kernel)) rfl
theorem wl_628 : Cond.selects "HeelsIn" ({ cls := "HeelsIn", name := "doing", desc := "(III)I" } : MethodName) ({ cls := "HeelsIn", name := "doing", desc := "(III)I" } : MethodName) ∈ hh_ws := hh_in (List.mem_of_getElem? (i := 737) (by decide +kernel)) rfl
theorem wl_629 : Cond.code ({ cls := "HeelsIn", name := "doing", desc := "(III)I" } : MethodName) prog_1_method_14_code 4 (Option.some FieldType.int) ∈ hh_ws := hh_in (List.mem_of_getElem? (i := 738) (by decide +kernel)) rfl
theorem wl_630 : Cond.constant "HeelsIn" 200 (Int32.ofInt (-1000000)) ∈ hh_ws := hh_in (List.mem_of_getElem? (i := 739) (by decide +kernel)) rfl
theorem wl_632 : Cond.instanceMethod ({ cls := "HeelsIn", name := "later", desc := "(II)I" } : MethodName) ∈ hh_ws := hh_in (List.mem_of_getElem? (i := 741) (by decide +kernel)) rfl
theorem wl_633 : Cond.selects "HeelsIn" ({ cls := "HeelsIn", name := "later", desc := "(II)I" } : MethodName) ({ cls := "HeelsIn", name := "later", desc := "(II)I" } : MethodName) ∈ hh_ws := hh_in (List.mem_of_getElem? (i := 742) (by decide +kernel)) rfl
theorem wl_634 : Cond.code ({ cls := "HeelsIn", name := "later", desc := "(II)I" } : MethodName) prog_1_method_15_code 3 (Option.some FieldType.int) ∈ hh_ws := hh_in (List.mem_of_getElem? (i := 743) (by decide +kernel)) rfl
theorem wl_635 : Cond.methodLinkNest "HeelsIn" 207 ({ cls := "HeelsIn$Tug", name := "keptTenths", desc := "()I" } : MethodName) "HeelsIn" ∈ hh_nw := hh_nin (List.mem_of_getElem? (i := 744) (by decide +kernel)) rfl
theorem wl_637 : Cond.instanceMethod ({ cls := "HeelsIn$Tug", name := "keptTenths", desc := "()I" } : MethodName) ∈ hh_ws := hh_in (List.mem_of_getElem? (i := 746) (by decide +kernel)) rfl
theorem wl_638 : Cond.code ({ cls := "HeelsIn$Tug", name := "keptTenths", desc := "()I" } : MethodName) prog_10_method_19_code 1 (Option.some FieldType.int) ∈ hh_ws := hh_in (List.mem_of_getElem? (i := 747) (by decide +kernel)) rfl
theorem wl_639 : Cond.methodLinkNest "HeelsIn" 210 ({ cls := "HeelsIn$Tug", name := "keptAgo", desc := "(II)I" } : MethodName) "HeelsIn" ∈ hh_nw := hh_nin (List.mem_of_getElem? (i := 748) (by decide +kernel)) rfl
theorem wl_641 : Cond.instanceMethod ({ cls := "HeelsIn$Tug", name := "keptAgo", desc := "(II)I" } : MethodName) ∈ hh_ws := hh_in (List.mem_of_getElem? (i := 750) (by decide +kernel)) rfl
theorem wl_642 : Cond.code ({ cls := "HeelsIn$Tug", name := "keptAgo", desc := "(II)I" } : MethodName) prog_10_method_20_code 3 (Option.some FieldType.int) ∈ hh_ws := hh_in (List.mem_of_getElem? (i := 751) (by decide +kernel)) rfl
theorem wl_644 : Cond.instanceMethod ({ cls := "HeelsIn", name := "three", desc := "(II)I" } : MethodName) ∈ hh_ws := hh_in (List.mem_of_getElem? (i := 753) (by decide +kernel)) rfl
theorem wl_645 : Cond.selects "HeelsIn" ({ cls := "HeelsIn", name := "three", desc := "(II)I" } : MethodName) ({ cls := "HeelsIn", name := "three", desc := "(II)I" } : MethodName) ∈ hh_ws := hh_in (List.mem_of_getElem? (i := 754) (by decide +kernel)) rfl
theorem wl_646 : Cond.code ({ cls := "HeelsIn", name := "three", desc := "(II)I" } : MethodName) prog_1_method_16_code 3 (Option.some FieldType.int) ∈ hh_ws := hh_in (List.mem_of_getElem? (i := 755) (by decide +kernel)) rfl
theorem wl_647 : Cond.methodLinkNest "HeelsIn" 214 ({ cls := "HeelsIn$Tug", name := "winnerOfThree", desc := "(LHeelsIn$Match;II)I" } : MethodName) "HeelsIn" ∈ hh_nw := hh_nin (List.mem_of_getElem? (i := 756) (by decide +kernel)) rfl
theorem wl_649 : Cond.instanceMethod ({ cls := "HeelsIn$Tug", name := "winnerOfThree", desc := "(LHeelsIn$Match;II)I" } : MethodName) ∈ hh_ws := hh_in (List.mem_of_getElem? (i := 758) (by decide +kernel)) rfl
theorem wl_650 : Cond.code ({ cls := "HeelsIn$Tug", name := "winnerOfThree", desc := "(LHeelsIn$Match;II)I" } : MethodName) prog_10_method_23_code 7 (Option.some FieldType.int) ∈ hh_ws := hh_in (List.mem_of_getElem? (i := 759) (by decide +kernel)) rfl
theorem wl_651 : Cond.methodLink "HeelsIn$Tug" 147 ({ cls := "HeelsIn$Tug", name := "layGround", desc := "(LHeelsIn$Match;)V" } : MethodName) ∈ hh_ws := hh_in (List.mem_of_getElem? (i := 760) (by decide +kernel)) rfl
theorem wl_652 : Cond.methodLink "HeelsIn$Tug" 151 ({ cls := "HeelsIn$Tug", name := "beginPull", desc := "(LHeelsIn$Match;I)V" } : MethodName) ∈ hh_ws := hh_in (List.mem_of_getElem? (i := 761) (by decide +kernel)) rfl
theorem wl_653 : Cond.methodLink "HeelsIn$Tug" 155 ({ cls := "HeelsIn$Tug", name := "goByRules", desc := "(LHeelsIn$Match;I)I" } : MethodName) ∈ hh_ws := hh_in (List.mem_of_getElem? (i := 762) (by decide +kernel)) rfl
theorem wl_654 : Cond.methodLink "HeelsIn$Tug" 158 ({ cls := "HeelsIn$Tug", name := "sideOf", desc := "(I)I" } : MethodName) ∈ hh_ws := hh_in (List.mem_of_getElem? (i := 763) (by decide +kernel)) rfl
theorem wl_655 : Cond.static ({ cls := "HeelsIn$Tug", name := "sideOf", desc := "(I)I" } : MethodName) ∈ hh_ws := hh_in (List.mem_of_getElem? (i := 764) (by decide +kernel)) rfl
theorem wl_656 : Cond.code ({ cls := "HeelsIn$Tug", name := "sideOf", desc := "(I)I" } : MethodName) prog_10_method_24_code 1 (Option.some FieldType.int) ∈ hh_ws := hh_in (List.mem_of_getElem? (i := 765) (by decide +kernel)) rfl
theorem wl_657 : Cond.methodLink "HeelsIn$Tug" 161 ({ cls := "java/lang/Integer", name := "compare", desc := "(II)I" } : MethodName) ∈ hh_ws := hh_in (List.mem_of_getElem? (i := 766) (by decide +kernel)) rfl
theorem wl_658 : Cond.static ({ cls := "java/lang/Integer", name := "compare", desc := "(II)I" } : MethodName) ∈ hh_ws := hh_in (List.mem_of_getElem? (i := 767) (by decide +kernel)) rfl
theorem wl_659 : Cond.code ({ cls := "java/lang/Integer", name := "compare", desc := "(II)I" } : MethodName) prog_13_method_40_code 2 (Option.some FieldType.int) ∈ hh_ws := hh_in (List.mem_of_getElem? (i := 768) (by decide +kernel)) rfl
theorem wl_661 : Cond.instanceMethod ({ cls := "HeelsIn", name := "together", desc := "(III)I" } : MethodName) ∈ hh_ws := hh_in (List.mem_of_getElem? (i := 770) (by decide +kernel)) rfl
theorem wl_662 : Cond.selects "HeelsIn" ({ cls := "HeelsIn", name := "together", desc := "(III)I" } : MethodName) ({ cls := "HeelsIn", name := "together", desc := "(III)I" } : MethodName) ∈ hh_ws := hh_in (List.mem_of_getElem? (i := 771) (by decide +kernel)) rfl
theorem wl_663 : Cond.code ({ cls := "HeelsIn", name := "together", desc := "(III)I" } : MethodName) prog_1_method_17_code 6 (Option.some FieldType.int) ∈ hh_ws := hh_in (List.mem_of_getElem? (i := 772) (by decide +kernel)) rfl
theorem wl_664 : Cond.methodLinkNest "HeelsIn" 218 ({ cls := "HeelsIn$Side", name := "strongestTenth", desc := "(I)I" } : MethodName) "HeelsIn" ∈ hh_nw := hh_nin (List.mem_of_getElem? (i := 773) (by decide +kernel)) rfl
theorem wl_666 : Cond.instanceMethod ({ cls := "HeelsIn$Side", name := "strongestTenth", desc := "(I)I" } : MethodName) ∈ hh_ws := hh_in (List.mem_of_getElem? (i := 775) (by decide +kernel)) rfl
theorem wl_667 : Cond.code ({ cls := "HeelsIn$Side", name := "strongestTenth", desc := "(I)I" } : MethodName) prog_9_method_3_code 4 (Option.some FieldType.int) ∈ hh_ws := hh_in (List.mem_of_getElem? (i := 776) (by decide +kernel)) rfl
theorem wl_668 : Cond.methodLink "HeelsIn$Side" 34 ({ cls := "HeelsIn$Side", name := "forceTogether", desc := "(II)I" } : MethodName) ∈ hh_ws := hh_in (List.mem_of_getElem? (i := 777) (by decide +kernel)) rfl
theorem wl_670 : Cond.instanceMethod ({ cls := "HeelsIn$Side", name := "forceTogether", desc := "(II)I" } : MethodName) ∈ hh_ws := hh_in (List.mem_of_getElem? (i := 779) (by decide +kernel)) rfl
theorem wl_671 : Cond.code ({ cls := "HeelsIn$Side", name := "forceTogether", desc := "(II)I" } : MethodName) prog_9_method_4_code 6 (Option.some FieldType.int) ∈ hh_ws := hh_in (List.mem_of_getElem? (i := 780) (by decide +kernel)) rfl
theorem wl_672 : Cond.methodLink "HeelsIn$Side" 38 ({ cls := "HeelsIn$Side", name := "practised", desc := "(II)I" } : MethodName) ∈ hh_ws := hh_in (List.mem_of_getElem? (i := 781) (by decide +kernel)) rfl
theorem wl_673 : Cond.static ({ cls := "HeelsIn$Side", name := "practised", desc := "(II)I" } : MethodName) ∈ hh_ws := hh_in (List.mem_of_getElem? (i := 782) (by decide +kernel)) rfl
theorem wl_674 : Cond.code ({ cls := "HeelsIn$Side", name := "practised", desc := "(II)I" } : MethodName) prog_9_method_5_code 4 (Option.some FieldType.int) ∈ hh_ws := hh_in (List.mem_of_getElem? (i := 783) (by decide +kernel)) rfl
theorem wl_675 : Cond.methodLinkNest "HeelsIn" 221 ({ cls := "HeelsIn$Side", name := "forceTogether", desc := "(II)I" } : MethodName) "HeelsIn" ∈ hh_nw := hh_nin (List.mem_of_getElem? (i := 784) (by decide +kernel)) rfl
theorem wl_677 : Cond.instanceMethod ({ cls := "HeelsIn", name := "stands", desc := "(II)I" } : MethodName) ∈ hh_ws := hh_in (List.mem_of_getElem? (i := 786) (by decide +kernel)) rfl
theorem wl_678 : Cond.selects "HeelsIn" ({ cls := "HeelsIn", name := "stands", desc := "(II)I" } : MethodName) ({ cls := "HeelsIn", name := "stands", desc := "(II)I" } : MethodName) ∈ hh_ws := hh_in (List.mem_of_getElem? (i := 787) (by decide +kernel)) rfl
theorem wl_679 : Cond.code ({ cls := "HeelsIn", name := "stands", desc := "(II)I" } : MethodName) prog_1_method_18_code 4 (Option.some FieldType.int) ∈ hh_ws := hh_in (List.mem_of_getElem? (i := 788) (by decide +kernel)) rfl
theorem wl_680 : Cond.methodLinkNest "HeelsIn" 227 ({ cls := "HeelsIn$Places", name := "weigh", desc := "(LHeelsIn$Side;)V" } : MethodName) "HeelsIn" ∈ hh_nw := hh_nin (List.mem_of_getElem? (i := 789) (by decide +kernel)) rfl
theorem wl_682 : Cond.instanceMethod ({ cls := "HeelsIn$Places", name := "weigh", desc := "(LHeelsIn$Side;)V" } : MethodName) ∈ hh_ws := hh_in (List.mem_of_getElem? (i := 791) (by decide +kernel)) rfl
theorem wl_683 : Cond.code ({ cls := "HeelsIn$Places", name := "weigh", desc := "(LHeelsIn$Side;)V" } : MethodName) prog_6_method_2_code 4 (Option.none : Option FieldType) ∈ hh_ws := hh_in (List.mem_of_getElem? (i := 792) (by decide +kernel)) rfl
theorem wl_684 : Cond.methodLink "HeelsIn$Places" 21 ({ cls := "HeelsIn$Places", name := "bestNext", desc := "(LHeelsIn$Side;I)I" } : MethodName) ∈ hh_ws := hh_in (List.mem_of_getElem? (i := 793) (by decide +kernel)) rfl
theorem wl_686 : Cond.instanceMethod ({ cls := "HeelsIn$Places", name := "bestNext", desc := "(LHeelsIn$Side;I)I" } : MethodName) ∈ hh_ws := hh_in (List.mem_of_getElem? (i := 795) (by decide +kernel)) rfl
theorem wl_687 : Cond.code ({ cls := "HeelsIn$Places", name := "bestNext", desc := "(LHeelsIn$Side;I)I" } : MethodName) prog_6_method_3_code 5 (Option.some FieldType.int) ∈ hh_ws := hh_in (List.mem_of_getElem? (i := 796) (by decide +kernel)) rfl
theorem wl_688 : Cond.methodLink "HeelsIn$Places" 25 ({ cls := "HeelsIn$Places", name := "worthWith", desc := "(LHeelsIn$Side;II)I" } : MethodName) ∈ hh_ws := hh_in (List.mem_of_getElem? (i := 797) (by decide +kernel)) rfl
theorem wl_690 : Cond.instanceMethod ({ cls := "HeelsIn$Places", name := "worthWith", desc := "(LHeelsIn$Side;II)I" } : MethodName) ∈ hh_ws := hh_in (List.mem_of_getElem? (i := 799) (by decide +kernel)) rfl
theorem wl_691 : Cond.code ({ cls := "HeelsIn$Places", name := "worthWith", desc := "(LHeelsIn$Side;II)I" } : MethodName) prog_6_method_4_code 6 (Option.some FieldType.int) ∈ hh_ws := hh_in (List.mem_of_getElem? (i := 800) (by decide +kernel)) rfl
theorem wl_692 : Cond.methodLink "HeelsIn$Places" 29 ({ cls := "java/lang/Integer", name := "bitCount", desc := "(I)I" } : MethodName) ∈ hh_ws := hh_in (List.mem_of_getElem? (i := 801) (by decide +kernel)) rfl
theorem wl_693 : Cond.static ({ cls := "java/lang/Integer", name := "bitCount", desc := "(I)I" } : MethodName) ∈ hh_ws := hh_in (List.mem_of_getElem? (i := 802) (by decide +kernel)) rfl
theorem wl_694 : Cond.code ({ cls := "java/lang/Integer", name := "bitCount", desc := "(I)I" } : MethodName) prog_13_method_49_code 1 (Option.some FieldType.int) ∈ hh_ws := hh_in (List.mem_of_getElem? (i := 803) (by decide +kernel)) rfl
theorem wl_695 : Cond.constant "java/lang/Integer" 265 (Int32.ofInt (1431655765)) ∈ hh_ws := hh_in (List.mem_of_getElem? (i := 804) (by decide +kernel)) rfl
theorem wl_696 : Cond.constant "java/lang/Integer" 266 (Int32.ofInt (858993459)) ∈ hh_ws := hh_in (List.mem_of_getElem? (i := 805) (by decide +kernel)) rfl
theorem wl_697 : Cond.constant "java/lang/Integer" 267 (Int32.ofInt (252645135)) ∈ hh_ws := hh_in (List.mem_of_getElem? (i := 806) (by decide +kernel)) rfl
theorem wl_698 : Cond.methodLink "HeelsIn$Places" 35 ({ cls := "java/lang/Math", name := "abs", desc := "(I)I" } : MethodName) ∈ hh_ws := hh_in (List.mem_of_getElem? (i := 807) (by decide +kernel)) rfl
theorem wl_699 : Cond.static ({ cls := "java/lang/Math", name := "abs", desc := "(I)I" } : MethodName) ∈ hh_ws := hh_in (List.mem_of_getElem? (i := 808) (by decide +kernel)) rfl
theorem wl_700 : Cond.code ({ cls := "java/lang/Math", name := "abs", desc := "(I)I" } : MethodName) prog_14_method_59_code 1 (Option.some FieldType.int) ∈ hh_ws := hh_in (List.mem_of_getElem? (i := 809) (by decide +kernel)) rfl
theorem wl_701 : Cond.methodLinkNest "HeelsIn" 234 ({ cls := "HeelsIn$Places", name := "pullerAt", desc := "(LHeelsIn$Side;I)I" } : MethodName) "HeelsIn" ∈ hh_nw := hh_nin (List.mem_of_getElem? (i := 810) (by decide +kernel)) rfl
theorem wl_703 : Cond.instanceMethod ({ cls := "HeelsIn$Places", name := "pullerAt", desc := "(LHeelsIn$Side;I)I" } : MethodName) ∈ hh_ws := hh_in (List.mem_of_getElem? (i := 812) (by decide +kernel)) rfl
theorem wl_704 : Cond.code ({ cls := "HeelsIn$Places", name := "pullerAt", desc := "(LHeelsIn$Side;I)I" } : MethodName) prog_6_method_5_code 5 (Option.some FieldType.int) ∈ hh_ws := hh_in (List.mem_of_getElem? (i := 813) (by decide +kernel)) rfl
theorem wl_706 : Cond.instanceMethod ({ cls := "HeelsIn", name := "chosen", desc := "(III)I" } : MethodName) ∈ hh_ws := hh_in (List.mem_of_getElem? (i := 815) (by decide +kernel)) rfl
theorem wl_707 : Cond.selects "HeelsIn" ({ cls := "HeelsIn", name := "chosen", desc := "(III)I" } : MethodName) ({ cls := "HeelsIn", name := "chosen", desc := "(III)I" } : MethodName) ∈ hh_ws := hh_in (List.mem_of_getElem? (i := 816) (by decide +kernel)) rfl
theorem wl_708 : Cond.code ({ cls := "HeelsIn", name := "chosen", desc := "(III)I" } : MethodName) prog_1_method_19_code 4 (Option.some FieldType.int) ∈ hh_ws := hh_in (List.mem_of_getElem? (i := 817) (by decide +kernel)) rfl
theorem wl_709 : Cond.methodLinkNest "HeelsIn" 238 ({ cls := "HeelsIn$Choice", name := "choose", desc := "(LHeelsIn$Match;II)V" } : MethodName) "HeelsIn" ∈ hh_nw := hh_nin (List.mem_of_getElem? (i := 818) (by decide +kernel)) rfl
theorem wl_711 : Cond.instanceMethod ({ cls := "HeelsIn$Choice", name := "choose", desc := "(LHeelsIn$Match;II)V" } : MethodName) ∈ hh_ws := hh_in (List.mem_of_getElem? (i := 820) (by decide +kernel)) rfl
theorem wl_712 : Cond.code ({ cls := "HeelsIn$Choice", name := "choose", desc := "(LHeelsIn$Match;II)V" } : MethodName) prog_2_method_2_code 7 (Option.none : Option FieldType) ∈ hh_ws := hh_in (List.mem_of_getElem? (i := 821) (by decide +kernel)) rfl
theorem wl_713 : Cond.methodLink "HeelsIn$Choice" 43 ({ cls := "HeelsIn$Choice", name := "tryBelow", desc := "(LHeelsIn$Choice;IIIII)V" } : MethodName) ∈ hh_ws := hh_in (List.mem_of_getElem? (i := 822) (by decide +kernel)) rfl
theorem wl_714 : Cond.static ({ cls := "HeelsIn$Choice", name := "tryBelow", desc := "(LHeelsIn$Choice;IIIII)V" } : MethodName) ∈ hh_ws := hh_in (List.mem_of_getElem? (i := 823) (by decide +kernel)) rfl
theorem wl_715 : Cond.code ({ cls := "HeelsIn$Choice", name := "tryBelow", desc := "(LHeelsIn$Choice;IIIII)V" } : MethodName) prog_2_method_3_code 7 (Option.none : Option FieldType) ∈ hh_ws := hh_in (List.mem_of_getElem? (i := 824) (by decide +kernel)) rfl
theorem wl_717 : Cond.instanceMethod ({ cls := "HeelsIn", name := "game", desc := "(IIII)I" } : MethodName) ∈ hh_ws := hh_in (List.mem_of_getElem? (i := 826) (by decide +kernel)) rfl
theorem wl_718 : Cond.selects "HeelsIn" ({ cls := "HeelsIn", name := "game", desc := "(IIII)I" } : MethodName) ({ cls := "HeelsIn", name := "game", desc := "(IIII)I" } : MethodName) ∈ hh_ws := hh_in (List.mem_of_getElem? (i := 827) (by decide +kernel)) rfl
theorem wl_719 : Cond.code ({ cls := "HeelsIn", name := "game", desc := "(IIII)I" } : MethodName) prog_1_method_20_code 5 (Option.some FieldType.int) ∈ hh_ws := hh_in (List.mem_of_getElem? (i := 828) (by decide +kernel)) rfl
theorem wl_720 : Cond.methodLinkNest "HeelsIn" 248 ({ cls := "HeelsIn$Game", name := "fillTo", desc := "(I)V" } : MethodName) "HeelsIn" ∈ hh_nw := hh_nin (List.mem_of_getElem? (i := 829) (by decide +kernel)) rfl
theorem wl_722 : Cond.instanceMethod ({ cls := "HeelsIn$Game", name := "fillTo", desc := "(I)V" } : MethodName) ∈ hh_ws := hh_in (List.mem_of_getElem? (i := 831) (by decide +kernel)) rfl
theorem wl_723 : Cond.code ({ cls := "HeelsIn$Game", name := "fillTo", desc := "(I)V" } : MethodName) prog_4_method_2_code 5 (Option.none : Option FieldType) ∈ hh_ws := hh_in (List.mem_of_getElem? (i := 832) (by decide +kernel)) rfl
theorem wl_724 : Cond.methodLink "HeelsIn$Game" 20 ({ cls := "HeelsIn$Game", name := "bestMove", desc := "(III)I" } : MethodName) ∈ hh_ws := hh_in (List.mem_of_getElem? (i := 833) (by decide +kernel)) rfl
theorem wl_726 : Cond.instanceMethod ({ cls := "HeelsIn$Game", name := "bestMove", desc := "(III)I" } : MethodName) ∈ hh_ws := hh_in (List.mem_of_getElem? (i := 835) (by decide +kernel)) rfl
theorem wl_727 : Cond.code ({ cls := "HeelsIn$Game", name := "bestMove", desc := "(III)I" } : MethodName) prog_4_method_7_code 6 (Option.some FieldType.int) ∈ hh_ws := hh_in (List.mem_of_getElem? (i := 836) (by decide +kernel)) rfl
theorem wl_728 : Cond.methodLink "HeelsIn$Game" 42 ({ cls := "HeelsIn$Game", name := "can", desc := "(II)Z" } : MethodName) ∈ hh_ws := hh_in (List.mem_of_getElem? (i := 837) (by decide +kernel)) rfl
theorem wl_729 : Cond.static ({ cls := "HeelsIn$Game", name := "can", desc := "(II)Z" } : MethodName) ∈ hh_ws := hh_in (List.mem_of_getElem? (i := 838) (by decide +kernel)) rfl
theorem wl_730 : Cond.code ({ cls := "HeelsIn$Game", name := "can", desc := "(II)Z" } : MethodName) prog_4_method_5_code 2 (Option.some FieldType.boolean) ∈ hh_ws := hh_in (List.mem_of_getElem? (i := 839) (by decide +kernel)) rfl
theorem wl_731 : Cond.fieldLink "HeelsIn$Game" 29 "HeelsIn$Game" "BREATH_NEEDED" "[I" ∈ hh_ws := hh_in (List.mem_of_getElem? (i := 840) (by decide +kernel)) rfl
theorem wl_733 : Cond.methodLink "HeelsIn$Game" 24 ({ cls := "HeelsIn$Game", name := "worstOf", desc := "(IIII)I" } : MethodName) ∈ hh_ws := hh_in (List.mem_of_getElem? (i := 842) (by decide +kernel)) rfl
theorem wl_735 : Cond.instanceMethod ({ cls := "HeelsIn$Game", name := "worstOf", desc := "(IIII)I" } : MethodName) ∈ hh_ws := hh_in (List.mem_of_getElem? (i := 844) (by decide +kernel)) rfl
theorem wl_736 : Cond.code ({ cls := "HeelsIn$Game", name := "worstOf", desc := "(IIII)I" } : MethodName) prog_4_method_8_code 8 (Option.some FieldType.int) ∈ hh_ws := hh_in (List.mem_of_getElem? (i := 845) (by decide +kernel)) rfl
theorem wl_737 : Cond.methodLink "HeelsIn$Game" 46 ({ cls := "HeelsIn$Game", name := "breathAfter", desc := "(II)I" } : MethodName) ∈ hh_ws := hh_in (List.mem_of_getElem? (i := 846) (by decide +kernel)) rfl
theorem wl_738 : Cond.static ({ cls := "HeelsIn$Game", name := "breathAfter", desc := "(II)I" } : MethodName) ∈ hh_ws := hh_in (List.mem_of_getElem? (i := 847) (by decide +kernel)) rfl
theorem wl_739 : Cond.code ({ cls := "HeelsIn$Game", name := "breathAfter", desc := "(II)I" } : MethodName) prog_4_method_6_code 2 (Option.some FieldType.int) ∈ hh_ws := hh_in (List.mem_of_getElem? (i := 848) (by decide +kernel)) rfl
theorem wl_740 : Cond.fieldLink "HeelsIn$Game" 33 "HeelsIn$Game" "BREATH_GAINED" "[I" ∈ hh_ws := hh_in (List.mem_of_getElem? (i := 849) (by decide +kernel)) rfl
theorem wl_742 : Cond.methodLink "HeelsIn$Game" 36 ({ cls := "java/lang/Math", name := "min", desc := "(II)I" } : MethodName) ∈ hh_ws := hh_in (List.mem_of_getElem? (i := 851) (by decide +kernel)) rfl
theorem wl_743 : Cond.methodLink "HeelsIn$Game" 49 ({ cls := "HeelsIn$Game", name := "gainBy", desc := "(IIIII)I" } : MethodName) ∈ hh_ws := hh_in (List.mem_of_getElem? (i := 852) (by decide +kernel)) rfl
theorem wl_745 : Cond.instanceMethod ({ cls := "HeelsIn$Game", name := "gainBy", desc := "(IIIII)I" } : MethodName) ∈ hh_ws := hh_in (List.mem_of_getElem? (i := 854) (by decide +kernel)) rfl
theorem wl_746 : Cond.code ({ cls := "HeelsIn$Game", name := "gainBy", desc := "(IIIII)I" } : MethodName) prog_4_method_9_code 6 (Option.some FieldType.int) ∈ hh_ws := hh_in (List.mem_of_getElem? (i := 855) (by decide +kernel)) rfl
theorem wl_747 : Cond.fieldLink "HeelsIn$Game" 53 "HeelsIn$Game" "GAINS" "[I" ∈ hh_ws := hh_in (List.mem_of_getElem? (i := 856) (by decide +kernel)) rfl
theorem wl_749 : Cond.methodLinkNest "HeelsIn" 252 ({ cls := "HeelsIn$Game", name := "valueOf", desc := "(III)I" } : MethodName) "HeelsIn" ∈ hh_nw := hh_nin (List.mem_of_getElem? (i := 858) (by decide +kernel)) rfl
theorem wl_751 : Cond.instanceMethod ({ cls := "HeelsIn$Game", name := "valueOf", desc := "(III)I" } : MethodName) ∈ hh_ws := hh_in (List.mem_of_getElem? (i := 860) (by decide +kernel)) rfl
theorem wl_752 : Cond.code ({ cls := "HeelsIn$Game", name := "valueOf", desc := "(III)I" } : MethodName) prog_4_method_3_code 4 (Option.some FieldType.int) ∈ hh_ws := hh_in (List.mem_of_getElem? (i := 861) (by decide +kernel)) rfl
theorem wl_753 : Cond.methodLinkNest "HeelsIn" 256 ({ cls := "HeelsIn$Game", name := "bestOf", desc := "(III)I" } : MethodName) "HeelsIn" ∈ hh_nw := hh_nin (List.mem_of_getElem? (i := 862) (by decide +kernel)) rfl
theorem wl_755 : Cond.instanceMethod ({ cls := "HeelsIn$Game", name := "bestOf", desc := "(III)I" } : MethodName) ∈ hh_ws := hh_in (List.mem_of_getElem? (i := 864) (by decide +kernel)) rfl
theorem wl_756 : Cond.code ({ cls := "HeelsIn$Game", name := "bestOf", desc := "(III)I" } : MethodName) prog_4_method_4_code 4 (Option.some FieldType.int) ∈ hh_ws := hh_in (List.mem_of_getElem? (i := 865) (by decide +kernel)) rfl
theorem wl_757 : Cond.constant "HeelsIn$Game" 28 (Int32.ofInt (-1000000)) ∈ hh_ws := hh_in (List.mem_of_getElem? (i := 866) (by decide +kernel)) rfl
theorem wl_759 : Cond.instanceMethod ({ cls := "HeelsIn", name := "left", desc := "(IIIIII)I" } : MethodName) ∈ hh_ws := hh_in (List.mem_of_getElem? (i := 868) (by decide +kernel)) rfl
theorem wl_760 : Cond.selects "HeelsIn" ({ cls := "HeelsIn", name := "left", desc := "(IIIIII)I" } : MethodName) ({ cls := "HeelsIn", name := "left", desc := "(IIIIII)I" } : MethodName) ∈ hh_ws := hh_in (List.mem_of_getElem? (i := 869) (by decide +kernel)) rfl
theorem wl_761 : Cond.code ({ cls := "HeelsIn", name := "left", desc := "(IIIIII)I" } : MethodName) prog_1_method_21_code 10 (Option.some FieldType.int) ∈ hh_ws := hh_in (List.mem_of_getElem? (i := 870) (by decide +kernel)) rfl
theorem wl_762 : Cond.methodLink "HeelsIn" 259 ({ cls := "HeelsIn", name := "leftBehind", desc := "(LHeelsIn$Sheet;IIII)I" } : MethodName) ∈ hh_ws := hh_in (List.mem_of_getElem? (i := 871) (by decide +kernel)) rfl
theorem wl_763 : Cond.static ({ cls := "HeelsIn", name := "leftBehind", desc := "(LHeelsIn$Sheet;IIII)I" } : MethodName) ∈ hh_ws := hh_in (List.mem_of_getElem? (i := 872) (by decide +kernel)) rfl
theorem wl_764 : Cond.code ({ cls := "HeelsIn", name := "leftBehind", desc := "(LHeelsIn$Sheet;IIII)I" } : MethodName) prog_1_method_38_code 10 (Option.some FieldType.int) ∈ hh_ws := hh_in (List.mem_of_getElem? (i := 873) (by decide +kernel)) rfl
theorem wl_765 : Cond.methodLink "HeelsIn" 316 ({ cls := "HeelsIn", name := "breathLeft", desc := "(LHeelsIn$Sheet;IIII)I" } : MethodName) ∈ hh_ws := hh_in (List.mem_of_getElem? (i := 874) (by decide +kernel)) rfl
theorem wl_766 : Cond.static ({ cls := "HeelsIn", name := "breathLeft", desc := "(LHeelsIn$Sheet;IIII)I" } : MethodName) ∈ hh_ws := hh_in (List.mem_of_getElem? (i := 875) (by decide +kernel)) rfl
theorem wl_767 : Cond.code ({ cls := "HeelsIn", name := "breathLeft", desc := "(LHeelsIn$Sheet;IIII)I" } : MethodName) prog_1_method_39_code 7 (Option.some FieldType.int) ∈ hh_ws := hh_in (List.mem_of_getElem? (i := 876) (by decide +kernel)) rfl
theorem wl_768 : Cond.methodLink "HeelsIn" 319 ({ cls := "java/lang/Math", name := "min", desc := "(II)I" } : MethodName) ∈ hh_ws := hh_in (List.mem_of_getElem? (i := 877) (by decide +kernel)) rfl
theorem wl_769 : Cond.methodLink "HeelsIn" 324 ({ cls := "java/lang/Math", name := "max", desc := "(II)I" } : MethodName) ∈ hh_ws := hh_in (List.mem_of_getElem? (i := 878) (by decide +kernel)) rfl
theorem wl_771 : Cond.instanceMethod ({ cls := "HeelsIn", name := "read", desc := "(I)I" } : MethodName) ∈ hh_ws := hh_in (List.mem_of_getElem? (i := 880) (by decide +kernel)) rfl
theorem wl_772 : Cond.selects "HeelsIn" ({ cls := "HeelsIn", name := "read", desc := "(I)I" } : MethodName) ({ cls := "HeelsIn", name := "read", desc := "(I)I" } : MethodName) ∈ hh_ws := hh_in (List.mem_of_getElem? (i := 881) (by decide +kernel)) rfl
theorem wl_773 : Cond.code ({ cls := "HeelsIn", name := "read", desc := "(I)I" } : MethodName) prog_1_method_22_code 2 (Option.some FieldType.int) ∈ hh_ws := hh_in (List.mem_of_getElem? (i := 882) (by decide +kernel)) rfl
theorem wl_774 : Cond.methodLinkNest "HeelsIn" 263 ({ cls := "HeelsIn$Tug", name := "roundOf", desc := "(I)I" } : MethodName) "HeelsIn" ∈ hh_nw := hh_nin (List.mem_of_getElem? (i := 883) (by decide +kernel)) rfl
theorem wl_776 : Cond.instanceMethod ({ cls := "HeelsIn$Tug", name := "roundOf", desc := "(I)I" } : MethodName) ∈ hh_ws := hh_in (List.mem_of_getElem? (i := 885) (by decide +kernel)) rfl
theorem wl_777 : Cond.code ({ cls := "HeelsIn$Tug", name := "roundOf", desc := "(I)I" } : MethodName) prog_10_method_21_code 4 (Option.some FieldType.int) ∈ hh_ws := hh_in (List.mem_of_getElem? (i := 886) (by decide +kernel)) rfl
theorem wl_778 : Cond.methodLink "HeelsIn$Tug" 136 ({ cls := "HeelsIn$Tug", name := "keptTenths", desc := "()I" } : MethodName) ∈ hh_ws := hh_in (List.mem_of_getElem? (i := 887) (by decide +kernel)) rfl
theorem wl_779 : Cond.methodLink "HeelsIn$Tug" 140 ({ cls := "HeelsIn$Tug", name := "comesRound", desc := "(III)Z" } : MethodName) ∈ hh_ws := hh_in (List.mem_of_getElem? (i := 888) (by decide +kernel)) rfl
theorem wl_781 : Cond.instanceMethod ({ cls := "HeelsIn$Tug", name := "comesRound", desc := "(III)Z" } : MethodName) ∈ hh_ws := hh_in (List.mem_of_getElem? (i := 890) (by decide +kernel)) rfl
theorem wl_782 : Cond.code ({ cls := "HeelsIn$Tug", name := "comesRound", desc := "(III)Z" } : MethodName) prog_10_method_22_code 5 (Option.some FieldType.boolean) ∈ hh_ws := hh_in (List.mem_of_getElem? (i := 891) (by decide +kernel)) rfl
theorem wl_783 : Cond.methodLink "HeelsIn$Tug" 144 ({ cls := "HeelsIn$Tug", name := "keptAgo", desc := "(II)I" } : MethodName) ∈ hh_ws := hh_in (List.mem_of_getElem? (i := 892) (by decide +kernel)) rfl
theorem wl_785 : Cond.instanceMethod ({ cls := "HeelsIn", name := "image", desc := "(I)I" } : MethodName) ∈ hh_ws := hh_in (List.mem_of_getElem? (i := 894) (by decide +kernel)) rfl
theorem wl_786 : Cond.selects "HeelsIn" ({ cls := "HeelsIn", name := "image", desc := "(I)I" } : MethodName) ({ cls := "HeelsIn", name := "image", desc := "(I)I" } : MethodName) ∈ hh_ws := hh_in (List.mem_of_getElem? (i := 895) (by decide +kernel)) rfl
theorem wl_787 : Cond.code ({ cls := "HeelsIn", name := "image", desc := "(I)I" } : MethodName) prog_1_method_23_code 2 (Option.some FieldType.int) ∈ hh_ws := hh_in (List.mem_of_getElem? (i := 896) (by decide +kernel)) rfl
theorem wl_788 : Cond.methodLinkNest "HeelsIn" 266 ({ cls := "HeelsIn$Tug", name := "become", desc := "(LHeelsIn$Tug;)V" } : MethodName) "HeelsIn" ∈ hh_nw := hh_nin (List.mem_of_getElem? (i := 897) (by decide +kernel)) rfl
theorem wl_790 : Cond.instanceMethod ({ cls := "HeelsIn$Tug", name := "become", desc := "(LHeelsIn$Tug;)V" } : MethodName) ∈ hh_ws := hh_in (List.mem_of_getElem? (i := 899) (by decide +kernel)) rfl
theorem wl_791 : Cond.code ({ cls := "HeelsIn$Tug", name := "become", desc := "(LHeelsIn$Tug;)V" } : MethodName) prog_10_method_2_code 3 (Option.none : Option FieldType) ∈ hh_ws := hh_in (List.mem_of_getElem? (i := 900) (by decide +kernel)) rfl
theorem wl_792 : Cond.methodLink "HeelsIn$Tug" 52 ({ cls := "java/lang/System", name := "arraycopy", desc := "(Ljava/lang/Object;ILjava/lang/Object;II)V" } : MethodName) ∈ hh_ws := hh_in (List.mem_of_getElem? (i := 901) (by decide +kernel)) rfl
theorem wl_794 : Cond.instanceMethod ({ cls := "HeelsIn", name := "restore", desc := "(I)I" } : MethodName) ∈ hh_ws := hh_in (List.mem_of_getElem? (i := 903) (by decide +kernel)) rfl
theorem wl_795 : Cond.selects "HeelsIn" ({ cls := "HeelsIn", name := "restore", desc := "(I)I" } : MethodName) ({ cls := "HeelsIn", name := "restore", desc := "(I)I" } : MethodName) ∈ hh_ws := hh_in (List.mem_of_getElem? (i := 904) (by decide +kernel)) rfl
theorem wl_796 : Cond.code ({ cls := "HeelsIn", name := "restore", desc := "(I)I" } : MethodName) prog_1_method_24_code 2 (Option.some FieldType.int) ∈ hh_ws := hh_in (List.mem_of_getElem? (i := 905) (by decide +kernel)) rfl
theorem wl_798 : Cond.instanceMethod ({ cls := "HeelsIn", name := "kind", desc := "(II)I" } : MethodName) ∈ hh_ws := hh_in (List.mem_of_getElem? (i := 907) (by decide +kernel)) rfl
theorem wl_799 : Cond.selects "HeelsIn" ({ cls := "HeelsIn", name := "kind", desc := "(II)I" } : MethodName) ({ cls := "HeelsIn", name := "kind", desc := "(II)I" } : MethodName) ∈ hh_ws := hh_in (List.mem_of_getElem? (i := 908) (by decide +kernel)) rfl
theorem wl_800 : Cond.code ({ cls := "HeelsIn", name := "kind", desc := "(II)I" } : MethodName) prog_1_method_25_code 3 (Option.some FieldType.int) ∈ hh_ws := hh_in (List.mem_of_getElem? (i := 909) (by decide +kernel)) rfl
theorem wl_801 : Cond.methodLinkNest "HeelsIn" 269 ({ cls := "HeelsIn$Tug", name := "hasDoings", desc := "()Z" } : MethodName) "HeelsIn" ∈ hh_nw := hh_nin (List.mem_of_getElem? (i := 910) (by decide +kernel)) rfl
theorem wl_803 : Cond.instanceMethod ({ cls := "HeelsIn$Tug", name := "hasDoings", desc := "()Z" } : MethodName) ∈ hh_ws := hh_in (List.mem_of_getElem? (i := 912) (by decide +kernel)) rfl
theorem wl_804 : Cond.code ({ cls := "HeelsIn$Tug", name := "hasDoings", desc := "()Z" } : MethodName) prog_10_method_18_code 1 (Option.some FieldType.boolean) ∈ hh_ws := hh_in (List.mem_of_getElem? (i := 913) (by decide +kernel)) rfl
theorem wl_805 : Cond.methodLink "HeelsIn" 273 ({ cls := "HeelsIn", name := "kindOf", desc := "(II)I" } : MethodName) ∈ hh_ws := hh_in (List.mem_of_getElem? (i := 914) (by decide +kernel)) rfl
theorem wl_807 : Cond.instanceMethod ({ cls := "HeelsIn", name := "kindOf", desc := "(II)I" } : MethodName) ∈ hh_ws := hh_in (List.mem_of_getElem? (i := 916) (by decide +kernel)) rfl
theorem wl_808 : Cond.code ({ cls := "HeelsIn", name := "kindOf", desc := "(II)I" } : MethodName) prog_1_method_35_code 3 (Option.some FieldType.int) ∈ hh_ws := hh_in (List.mem_of_getElem? (i := 917) (by decide +kernel)) rfl
theorem wl_810 : Cond.instanceMethod ({ cls := "HeelsIn", name := "as", desc := "(III)I" } : MethodName) ∈ hh_ws := hh_in (List.mem_of_getElem? (i := 919) (by decide +kernel)) rfl
theorem wl_811 : Cond.selects "HeelsIn" ({ cls := "HeelsIn", name := "as", desc := "(III)I" } : MethodName) ({ cls := "HeelsIn", name := "as", desc := "(III)I" } : MethodName) ∈ hh_ws := hh_in (List.mem_of_getElem? (i := 920) (by decide +kernel)) rfl
theorem wl_812 : Cond.code ({ cls := "HeelsIn", name := "as", desc := "(III)I" } : MethodName) prog_1_method_26_code 4 (Option.some FieldType.int) ∈ hh_ws := hh_in (List.mem_of_getElem? (i := 921) (by decide +kernel)) rfl
theorem wl_813 : Cond.methodLinkNest "HeelsIn" 276 ({ cls := "HeelsIn$Doing", name := "isOne", desc := "(II)Z" } : MethodName) "HeelsIn" ∈ hh_nw := hh_nin (List.mem_of_getElem? (i := 922) (by decide +kernel)) rfl
theorem wl_814 : Cond.static ({ cls := "HeelsIn$Doing", name := "isOne", desc := "(II)Z" } : MethodName) ∈ hh_ws := hh_in (List.mem_of_getElem? (i := 923) (by decide +kernel)) rfl
theorem wl_815 : Cond.code ({ cls := "HeelsIn$Doing", name := "isOne", desc := "(II)Z" } : MethodName) prog_3_method_2_code 2 (Option.some FieldType.boolean) ∈ hh_ws := hh_in (List.mem_of_getElem? (i := 924) (by decide +kernel)) rfl
theorem wl_817 : Cond.instanceMethod ({ cls := "HeelsIn", name := "ask", desc := "(III)I" } : MethodName) ∈ hh_ws := hh_in (List.mem_of_getElem? (i := 926) (by decide +kernel)) rfl
theorem wl_818 : Cond.selects "HeelsIn" ({ cls := "HeelsIn", name := "ask", desc := "(III)I" } : MethodName) ({ cls := "HeelsIn", name := "ask", desc := "(III)I" } : MethodName) ∈ hh_ws := hh_in (List.mem_of_getElem? (i := 927) (by decide +kernel)) rfl
theorem wl_819 : Cond.code ({ cls := "HeelsIn", name := "ask", desc := "(III)I" } : MethodName) prog_1_method_27_code 4 (Option.some FieldType.int) ∈ hh_ws := hh_in (List.mem_of_getElem? (i := 928) (by decide +kernel)) rfl
theorem wl_820 : Cond.methodLinkNest "HeelsIn" 295 ({ cls := "HeelsIn$Doing", name := "size", desc := "()I" } : MethodName) "HeelsIn" ∈ hh_nw := hh_nin (List.mem_of_getElem? (i := 929) (by decide +kernel)) rfl
theorem wl_822 : Cond.instanceMethod ({ cls := "HeelsIn$Doing", name := "size", desc := "()I" } : MethodName) ∈ hh_ws := hh_in (List.mem_of_getElem? (i := 931) (by decide +kernel)) rfl
theorem wl_823 : Cond.code ({ cls := "HeelsIn$Doing", name := "size", desc := "()I" } : MethodName) prog_3_method_4_code 1 (Option.some FieldType.int) ∈ hh_ws := hh_in (List.mem_of_getElem? (i := 932) (by decide +kernel)) rfl
theorem wl_824 : Cond.methodLink "HeelsIn$Doing" 20 ({ cls := "HeelsIn$Doing", name := "size11", desc := "()I" } : MethodName) ∈ hh_ws := hh_in (List.mem_of_getElem? (i := 933) (by decide +kernel)) rfl
theorem wl_826 : Cond.instanceMethod ({ cls := "HeelsIn$Doing", name := "size11", desc := "()I" } : MethodName) ∈ hh_ws := hh_in (List.mem_of_getElem? (i := 935) (by decide +kernel)) rfl
theorem wl_827 : Cond.code ({ cls := "HeelsIn$Doing", name := "size11", desc := "()I" } : MethodName) prog_3_method_7_code 1 (Option.some FieldType.int) ∈ hh_ws := hh_in (List.mem_of_getElem? (i := 936) (by decide +kernel)) rfl
theorem wl_828 : Cond.methodLink "HeelsIn$Doing" 51 ({ cls := "HeelsIn$Doing", name := "begins", desc := "(I)V" } : MethodName) ∈ hh_ws := hh_in (List.mem_of_getElem? (i := 937) (by decide +kernel)) rfl
theorem wl_830 : Cond.instanceMethod ({ cls := "HeelsIn$Doing", name := "begins", desc := "(I)V" } : MethodName) ∈ hh_ws := hh_in (List.mem_of_getElem? (i := 939) (by decide +kernel)) rfl
theorem wl_831 : Cond.code ({ cls := "HeelsIn$Doing", name := "begins", desc := "(I)V" } : MethodName) prog_3_method_3_code 2 (Option.none : Option FieldType) ∈ hh_ws := hh_in (List.mem_of_getElem? (i := 940) (by decide +kernel)) rfl
theorem wl_832 : Cond.methodLink "HeelsIn$Doing" 33 ({ cls := "HeelsIn$Doing", name := "size10", desc := "()I" } : MethodName) ∈ hh_ws := hh_in (List.mem_of_getElem? (i := 941) (by decide +kernel)) rfl
theorem wl_834 : Cond.instanceMethod ({ cls := "HeelsIn$Doing", name := "size10", desc := "()I" } : MethodName) ∈ hh_ws := hh_in (List.mem_of_getElem? (i := 943) (by decide +kernel)) rfl
theorem wl_835 : Cond.code ({ cls := "HeelsIn$Doing", name := "size10", desc := "()I" } : MethodName) prog_3_method_6_code 1 (Option.some FieldType.int) ∈ hh_ws := hh_in (List.mem_of_getElem? (i := 944) (by decide +kernel)) rfl
theorem wl_836 : Cond.methodLink "HeelsIn$Doing" 24 ({ cls := "HeelsIn$Doing", name := "size12", desc := "()I" } : MethodName) ∈ hh_ws := hh_in (List.mem_of_getElem? (i := 945) (by decide +kernel)) rfl
theorem wl_838 : Cond.instanceMethod ({ cls := "HeelsIn$Doing", name := "size12", desc := "()I" } : MethodName) ∈ hh_ws := hh_in (List.mem_of_getElem? (i := 947) (by decide +kernel)) rfl
theorem wl_839 : Cond.code ({ cls := "HeelsIn$Doing", name := "size12", desc := "()I" } : MethodName) prog_3_method_8_code 1 (Option.some FieldType.int) ∈ hh_ws := hh_in (List.mem_of_getElem? (i := 948) (by decide +kernel)) rfl
theorem wl_840 : Cond.methodLink "HeelsIn$Doing" 27 ({ cls := "HeelsIn$Doing", name := "size13", desc := "()I" } : MethodName) ∈ hh_ws := hh_in (List.mem_of_getElem? (i := 949) (by decide +kernel)) rfl
theorem wl_842 : Cond.instanceMethod ({ cls := "HeelsIn$Doing", name := "size13", desc := "()I" } : MethodName) ∈ hh_ws := hh_in (List.mem_of_getElem? (i := 951) (by decide +kernel)) rfl
theorem wl_843 : Cond.code ({ cls := "HeelsIn$Doing", name := "size13", desc := "()I" } : MethodName) prog_3_method_9_code 2 (Option.some FieldType.int) ∈ hh_ws := hh_in (List.mem_of_getElem? (i := 952) (by decide +kernel)) rfl
theorem wl_844 : Cond.methodLink "HeelsIn$Doing" 39 ({ cls := "HeelsIn$Doing", name := "mark22", desc := "()I" } : MethodName) ∈ hh_ws := hh_in (List.mem_of_getElem? (i := 953) (by decide +kernel)) rfl
theorem wl_846 : Cond.instanceMethod ({ cls := "HeelsIn$Doing", name := "mark22", desc := "()I" } : MethodName) ∈ hh_ws := hh_in (List.mem_of_getElem? (i := 955) (by decide +kernel)) rfl
theorem wl_847 : Cond.code ({ cls := "HeelsIn$Doing", name := "mark22", desc := "()I" } : MethodName) prog_3_method_13_code 1 (Option.some FieldType.int) ∈ hh_ws := hh_in (List.mem_of_getElem? (i := 956) (by decide +kernel)) rfl
theorem wl_848 : Cond.methodLink "HeelsIn$Doing" 36 ({ cls := "HeelsIn$Doing", name := "mark21", desc := "()I" } : MethodName) ∈ hh_ws := hh_in (List.mem_of_getElem? (i := 957) (by decide +kernel)) rfl
theorem wl_850 : Cond.instanceMethod ({ cls := "HeelsIn$Doing", name := "mark21", desc := "()I" } : MethodName) ∈ hh_ws := hh_in (List.mem_of_getElem? (i := 959) (by decide +kernel)) rfl
theorem wl_851 : Cond.code ({ cls := "HeelsIn$Doing", name := "mark21", desc := "()I" } : MethodName) prog_3_method_12_code 1 (Option.some FieldType.int) ∈ hh_ws := hh_in (List.mem_of_getElem? (i := 960) (by decide +kernel)) rfl
theorem wl_852 : Cond.methodLink "HeelsIn$Doing" 48 ({ cls := "HeelsIn$Doing", name := "mark20", desc := "()I" } : MethodName) ∈ hh_ws := hh_in (List.mem_of_getElem? (i := 961) (by decide +kernel)) rfl
theorem wl_854 : Cond.instanceMethod ({ cls := "HeelsIn$Doing", name := "mark20", desc := "()I" } : MethodName) ∈ hh_ws := hh_in (List.mem_of_getElem? (i := 963) (by decide +kernel)) rfl
theorem wl_855 : Cond.code ({ cls := "HeelsIn$Doing", name := "mark20", desc := "()I" } : MethodName) prog_3_method_11_code 1 (Option.some FieldType.int) ∈ hh_ws := hh_in (List.mem_of_getElem? (i := 964) (by decide +kernel)) rfl
theorem wl_856 : Cond.methodLink "HeelsIn$Doing" 30 ({ cls := "HeelsIn$Doing", name := "size14", desc := "()I" } : MethodName) ∈ hh_ws := hh_in (List.mem_of_getElem? (i := 965) (by decide +kernel)) rfl
theorem wl_858 : Cond.instanceMethod ({ cls := "HeelsIn$Doing", name := "size14", desc := "()I" } : MethodName) ∈ hh_ws := hh_in (List.mem_of_getElem? (i := 967) (by decide +kernel)) rfl
theorem wl_859 : Cond.code ({ cls := "HeelsIn$Doing", name := "size14", desc := "()I" } : MethodName) prog_3_method_10_code 1 (Option.some FieldType.int) ∈ hh_ws := hh_in (List.mem_of_getElem? (i := 968) (by decide +kernel)) rfl
theorem wl_860 : Cond.methodLinkNest "HeelsIn" 297 ({ cls := "HeelsIn$Doing", name := "mark", desc := "()I" } : MethodName) "HeelsIn" ∈ hh_nw := hh_nin (List.mem_of_getElem? (i := 969) (by decide +kernel)) rfl
theorem wl_862 : Cond.instanceMethod ({ cls := "HeelsIn$Doing", name := "mark", desc := "()I" } : MethodName) ∈ hh_ws := hh_in (List.mem_of_getElem? (i := 971) (by decide +kernel)) rfl
theorem wl_863 : Cond.code ({ cls := "HeelsIn$Doing", name := "mark", desc := "()I" } : MethodName) prog_3_method_5_code 1 (Option.some FieldType.int) ∈ hh_ws := hh_in (List.mem_of_getElem? (i := 972) (by decide +kernel)) rfl
theorem wl_864 : Cond.methodLink "HeelsIn$Doing" 42 ({ cls := "HeelsIn$Doing", name := "mark23", desc := "()I" } : MethodName) ∈ hh_ws := hh_in (List.mem_of_getElem? (i := 973) (by decide +kernel)) rfl
theorem wl_866 : Cond.instanceMethod ({ cls := "HeelsIn$Doing", name := "mark23", desc := "()I" } : MethodName) ∈ hh_ws := hh_in (List.mem_of_getElem? (i := 975) (by decide +kernel)) rfl
theorem wl_867 : Cond.code ({ cls := "HeelsIn$Doing", name := "mark23", desc := "()I" } : MethodName) prog_3_method_14_code 1 (Option.some FieldType.int) ∈ hh_ws := hh_in (List.mem_of_getElem? (i := 976) (by decide +kernel)) rfl
theorem wl_868 : Cond.methodLink "HeelsIn$Doing" 45 ({ cls := "HeelsIn$Doing", name := "mark24", desc := "()I" } : MethodName) ∈ hh_ws := hh_in (List.mem_of_getElem? (i := 977) (by decide +kernel)) rfl
theorem wl_870 : Cond.instanceMethod ({ cls := "HeelsIn$Doing", name := "mark24", desc := "()I" } : MethodName) ∈ hh_ws := hh_in (List.mem_of_getElem? (i := 979) (by decide +kernel)) rfl
theorem wl_871 : Cond.code ({ cls := "HeelsIn$Doing", name := "mark24", desc := "()I" } : MethodName) prog_3_method_15_code 1 (Option.some FieldType.int) ∈ hh_ws := hh_in (List.mem_of_getElem? (i := 980) (by decide +kernel)) rfl
theorem wl_873 : Cond.instanceMethod ({ cls := "HeelsIn", name := "trace", desc := "(I)I" } : MethodName) ∈ hh_ws := hh_in (List.mem_of_getElem? (i := 982) (by decide +kernel)) rfl
theorem wl_874 : Cond.selects "HeelsIn" ({ cls := "HeelsIn", name := "trace", desc := "(I)I" } : MethodName) ({ cls := "HeelsIn", name := "trace", desc := "(I)I" } : MethodName) ∈ hh_ws := hh_in (List.mem_of_getElem? (i := 983) (by decide +kernel)) rfl
theorem wl_875 : Cond.code ({ cls := "HeelsIn", name := "trace", desc := "(I)I" } : MethodName) prog_1_method_28_code 2 (Option.some FieldType.int) ∈ hh_ws := hh_in (List.mem_of_getElem? (i := 984) (by decide +kernel)) rfl
theorem wl_877 : Cond.instanceMethod ({ cls := "HeelsIn", name := "count", desc := "(I)I" } : MethodName) ∈ hh_ws := hh_in (List.mem_of_getElem? (i := 986) (by decide +kernel)) rfl
theorem wl_878 : Cond.selects "HeelsIn" ({ cls := "HeelsIn", name := "count", desc := "(I)I" } : MethodName) ({ cls := "HeelsIn", name := "count", desc := "(I)I" } : MethodName) ∈ hh_ws := hh_in (List.mem_of_getElem? (i := 987) (by decide +kernel)) rfl
theorem wl_879 : Cond.code ({ cls := "HeelsIn", name := "count", desc := "(I)I" } : MethodName) prog_1_method_29_code 2 (Option.some FieldType.int) ∈ hh_ws := hh_in (List.mem_of_getElem? (i := 988) (by decide +kernel)) rfl
theorem wl_880 : Cond.methodLink "HeelsIn" 303 ({ cls := "HeelsIn", name := "sheetsThatAre", desc := "()I" } : MethodName) ∈ hh_ws := hh_in (List.mem_of_getElem? (i := 989) (by decide +kernel)) rfl
theorem wl_882 : Cond.instanceMethod ({ cls := "HeelsIn", name := "sheetsThatAre", desc := "()I" } : MethodName) ∈ hh_ws := hh_in (List.mem_of_getElem? (i := 991) (by decide +kernel)) rfl
theorem wl_883 : Cond.code ({ cls := "HeelsIn", name := "sheetsThatAre", desc := "()I" } : MethodName) prog_1_method_36_code 3 (Option.some FieldType.int) ∈ hh_ws := hh_in (List.mem_of_getElem? (i := 992) (by decide +kernel)) rfl
theorem wl_885 : Cond.instanceMethod ({ cls := "HeelsIn", name := "status", desc := "()I" } : MethodName) ∈ hh_ws := hh_in (List.mem_of_getElem? (i := 994) (by decide +kernel)) rfl
theorem wl_886 : Cond.selects "HeelsIn" ({ cls := "HeelsIn", name := "status", desc := "()I" } : MethodName) ({ cls := "HeelsIn", name := "status", desc := "()I" } : MethodName) ∈ hh_ws := hh_in (List.mem_of_getElem? (i := 995) (by decide +kernel)) rfl
theorem wl_887 : Cond.code ({ cls := "HeelsIn", name := "status", desc := "()I" } : MethodName) prog_1_method_30_code 1 (Option.some FieldType.int) ∈ hh_ws := hh_in (List.mem_of_getElem? (i := 996) (by decide +kernel)) rfl
theorem wl_894 : Cond.fieldLink "HeelsInModel" 62 "HeelsInModel" "thrown" "I" ∈ hh_ws := hh_in (List.mem_of_getElem? (i := 1003) (by decide +kernel)) rfl
theorem wl_895 : Cond.fieldLink "HeelsInModel" 66 "HeelsInModel" "status" "I" ∈ hh_ws := hh_in (List.mem_of_getElem? (i := 1004) (by decide +kernel)) rfl
theorem wl_896 : Cond.fieldLink "HeelsInModel" 7 "HeelsInModel" "lane" "[I" ∈ hh_ws := hh_in (List.mem_of_getElem? (i := 1005) (by decide +kernel)) rfl
theorem wl_897 : Cond.fieldLink "HeelsInModel" 13 "HeelsInModel" "many" "[I" ∈ hh_ws := hh_in (List.mem_of_getElem? (i := 1006) (by decide +kernel)) rfl
theorem wl_898 : Cond.fieldLink "HeelsInModel" 16 "HeelsInModel" "item" "[I" ∈ hh_ws := hh_in (List.mem_of_getElem? (i := 1007) (by decide +kernel)) rfl
theorem wl_899 : Cond.fieldLink "HeelsInModel" 19 "HeelsInModel" "match" "[I" ∈ hh_ws := hh_in (List.mem_of_getElem? (i := 1008) (by decide +kernel)) rfl
theorem wl_900 : Cond.fieldLink "HeelsInModel" 22 "HeelsInModel" "fresh" "[I" ∈ hh_ws := hh_in (List.mem_of_getElem? (i := 1009) (by decide +kernel)) rfl
theorem wl_901 : Cond.fieldLink "HeelsInModel" 213 "HeelsInModel" "isThere" "Z" ∈ hh_ws := hh_in (List.mem_of_getElem? (i := 1010) (by decide +kernel)) rfl
theorem wl_902 : Cond.fieldLink "HeelsInModel" 25 "HeelsInModel" "now" "[I" ∈ hh_ws := hh_in (List.mem_of_getElem? (i := 1011) (by decide +kernel)) rfl
theorem wl_903 : Cond.fieldLink "HeelsInModel" 28 "HeelsInModel" "tape" "[I" ∈ hh_ws := hh_in (List.mem_of_getElem? (i := 1012) (by decide +kernel)) rfl
theorem wl_904 : Cond.fieldLink "HeelsInModel" 89 "HeelsInModel" "taped" "I" ∈ hh_ws := hh_in (List.mem_of_getElem? (i := 1013) (by decide +kernel)) rfl
theorem wl_905 : Cond.fieldLink "HeelsInModel" 209 "HeelsInModel" "latest" "I" ∈ hh_ws := hh_in (List.mem_of_getElem? (i := 1014) (by decide +kernel)) rfl
theorem wl_906 : Cond.fieldLink "HeelsInModel" 95 "HeelsInModel" "length" "I" ∈ hh_ws := hh_in (List.mem_of_getElem? (i := 1015) (by decide +kernel)) rfl
theorem wl_907 : Cond.fieldLink "HeelsInModel" 99 "HeelsInModel" "cursor" "I" ∈ hh_ws := hh_in (List.mem_of_getElem? (i := 1016) (by decide +kernel)) rfl
theorem wl_908 : Cond.fieldLink "HeelsInModel" 113 "HeelsInModel" "token" "I" ∈ hh_ws := hh_in (List.mem_of_getElem? (i := 1017) (by decide +kernel)) rfl
theorem wl_909 : Cond.fieldLink "HeelsInModel" 116 "HeelsInModel" "from" "I" ∈ hh_ws := hh_in (List.mem_of_getElem? (i := 1018) (by decide +kernel)) rfl
theorem wl_910 : Cond.fieldLink "HeelsInModel" 125 "HeelsInModel" "till" "I" ∈ hh_ws := hh_in (List.mem_of_getElem? (i := 1019) (by decide +kernel)) rfl
theorem wl_911 : Cond.fieldLink "HeelsInModel" 105 "HeelsInModel" "value" "I" ∈ hh_ws := hh_in (List.mem_of_getElem? (i := 1020) (by decide +kernel)) rfl
theorem wl_912 : Cond.fieldLink "HeelsInModel" 128 "HeelsInModel" "fault" "I" ∈ hh_ws := hh_in (List.mem_of_getElem? (i := 1021) (by decide +kernel)) rfl
theorem wl_913 : Cond.fieldLink "HeelsInModel" 131 "HeelsInModel" "faultAt" "I" ∈ hh_ws := hh_in (List.mem_of_getElem? (i := 1022) (by decide +kernel)) rfl
theorem wl_914 : Cond.fieldLink "HeelsInModel" 31 "HeelsInModel" "forces" "[I" ∈ hh_ws := hh_in (List.mem_of_getElem? (i := 1023) (by decide +kernel)) rfl
theorem wl_915 : Cond.fieldLink "HeelsInModel" 34 "HeelsInModel" "aside" "[I" ∈ hh_ws := hh_in (List.mem_of_getElem? (i := 1024) (by decide +kernel)) rfl
theorem wl_916 : Cond.fieldLink "HeelsInModel" 37 "HeelsInModel" "wins" "[I" ∈ hh_ws := hh_in (List.mem_of_getElem? (i := 1025) (by decide +kernel)) rfl
theorem wl_917 : Cond.fieldLink "HeelsInModel" 40 "HeelsInModel" "behind" "[I" ∈ hh_ws := hh_in (List.mem_of_getElem? (i := 1026) (by decide +kernel)) rfl
theorem wl_918 : Cond.fieldLink "HeelsInModel" 43 "HeelsInModel" "games" "[I" ∈ hh_ws := hh_in (List.mem_of_getElem? (i := 1027) (by decide +kernel)) rfl
theorem wl_919 : Cond.fieldLink "HeelsInModel" 46 "HeelsInModel" "before" "[I" ∈ hh_ws := hh_in (List.mem_of_getElem? (i := 1028) (by decide +kernel)) rfl
theorem wl_920 : Cond.fieldLink "HeelsInModel" 292 "HeelsInModel" "firstBest" "I" ∈ hh_ws := hh_in (List.mem_of_getElem? (i := 1029) (by decide +kernel)) rfl
theorem wl_921 : Cond.fieldLink "HeelsInModel" 49 "HeelsInModel" "isKept" "[Z" ∈ hh_ws := hh_in (List.mem_of_getElem? (i := 1030) (by decide +kernel)) rfl
theorem wl_922 : Cond.fieldLink "HeelsInModel" 53 "HeelsInModel" "keptMatch" "[I" ∈ hh_ws := hh_in (List.mem_of_getElem? (i := 1031) (by decide +kernel)) rfl
theorem wl_923 : Cond.fieldLink "HeelsInModel" 56 "HeelsInModel" "keptNow" "[I" ∈ hh_ws := hh_in (List.mem_of_getElem? (i := 1032) (by decide +kernel)) rfl
theorem wl_924 : Cond.fieldLink "HeelsInModel" 59 "HeelsInModel" "trace" "[I" ∈ hh_ws := hh_in (List.mem_of_getElem? (i := 1033) (by decide +kernel)) rfl
theorem wl_925 : Cond.fieldLink "HeelsInModel" 319 "HeelsInModel" "traced" "I" ∈ hh_ws := hh_in (List.mem_of_getElem? (i := 1034) (by decide +kernel)) rfl
theorem wl_993 : Cond.instanceMethod ({ cls := "HeelsInModel", name := "sheet", desc := "(III)I" } : MethodName) ∈ hh_ws := hh_in (List.mem_of_getElem? (i := 1102) (by decide +kernel)) rfl
theorem wl_994 : Cond.selects "HeelsInModel" ({ cls := "HeelsInModel", name := "sheet", desc := "(III)I" } : MethodName) ({ cls := "HeelsInModel", name := "sheet", desc := "(III)I" } : MethodName) ∈ hh_ws := hh_in (List.mem_of_getElem? (i := 1103) (by decide +kernel)) rfl
theorem wl_995 : Cond.code ({ cls := "HeelsInModel", name := "sheet", desc := "(III)I" } : MethodName) prog_12_method_6_code 5 (Option.some FieldType.int) ∈ hh_ws := hh_in (List.mem_of_getElem? (i := 1104) (by decide +kernel)) rfl
theorem wl_996 : Cond.methodLink "HeelsInModel" 76 ({ cls := "HeelsInModel", name := "isSheet", desc := "(I)Z" } : MethodName) ∈ hh_ws := hh_in (List.mem_of_getElem? (i := 1105) (by decide +kernel)) rfl
theorem wl_997 : Cond.static ({ cls := "HeelsInModel", name := "isSheet", desc := "(I)Z" } : MethodName) ∈ hh_ws := hh_in (List.mem_of_getElem? (i := 1106) (by decide +kernel)) rfl
theorem wl_998 : Cond.code ({ cls := "HeelsInModel", name := "isSheet", desc := "(I)Z" } : MethodName) prog_12_method_5_code 1 (Option.some FieldType.boolean) ∈ hh_ws := hh_in (List.mem_of_getElem? (i := 1107) (by decide +kernel)) rfl
theorem wl_999 : Cond.constantLong "HeelsInModel" 70 (Int64.ofInt (7)) ∈ hh_ws := hh_in (List.mem_of_getElem? (i := 1108) (by decide +kernel)) rfl
theorem wl_1000 : Cond.methodLink "HeelsInModel" 72 ({ cls := "HeelsInModel", name := "in", desc := "(JJJ)Z" } : MethodName) ∈ hh_ws := hh_in (List.mem_of_getElem? (i := 1109) (by decide +kernel)) rfl
theorem wl_1001 : Cond.static ({ cls := "HeelsInModel", name := "in", desc := "(JJJ)Z" } : MethodName) ∈ hh_ws := hh_in (List.mem_of_getElem? (i := 1110) (by decide +kernel)) rfl
theorem wl_1002 : Cond.code ({ cls := "HeelsInModel", name := "in", desc := "(JJJ)Z" } : MethodName) prog_12_method_3_code 6 (Option.some FieldType.boolean) ∈ hh_ws := hh_in (List.mem_of_getElem? (i := 1111) (by decide +kernel)) rfl
theorem wl_1003 : Cond.constantLong "HeelsInModel" 80 (Int64.ofInt (2)) ∈ hh_ws := hh_in (List.mem_of_getElem? (i := 1112) (by decide +kernel)) rfl
theorem wl_1004 : Cond.constant "HeelsInModel" 82 (Int32.ofInt (-1000001)) ∈ hh_ws := hh_in (List.mem_of_getElem? (i := 1113) (by decide +kernel)) rfl
theorem wl_1005 : Cond.methodLink "HeelsInModel" 83 ({ cls := "HeelsInModel", name := "finding", desc := "(I)I" } : MethodName) ∈ hh_ws := hh_in (List.mem_of_getElem? (i := 1114) (by decide +kernel)) rfl
theorem wl_1007 : Cond.instanceMethod ({ cls := "HeelsInModel", name := "finding", desc := "(I)I" } : MethodName) ∈ hh_ws := hh_in (List.mem_of_getElem? (i := 1116) (by decide +kernel)) rfl
theorem wl_1008 : Cond.code ({ cls := "HeelsInModel", name := "finding", desc := "(I)I" } : MethodName) prog_12_method_4_code 2 (Option.some FieldType.int) ∈ hh_ws := hh_in (List.mem_of_getElem? (i := 1117) (by decide +kernel)) rfl
theorem wl_1009 : Cond.constant "HeelsInModel" 69 (Int32.ofInt (-1000010)) ∈ hh_ws := hh_in (List.mem_of_getElem? (i := 1118) (by decide +kernel)) rfl
theorem wl_1011 : Cond.instanceMethod ({ cls := "HeelsInModel", name := "set", desc := "(III)I" } : MethodName) ∈ hh_ws := hh_in (List.mem_of_getElem? (i := 1120) (by decide +kernel)) rfl
theorem wl_1012 : Cond.selects "HeelsInModel" ({ cls := "HeelsInModel", name := "set", desc := "(III)I" } : MethodName) ({ cls := "HeelsInModel", name := "set", desc := "(III)I" } : MethodName) ∈ hh_ws := hh_in (List.mem_of_getElem? (i := 1121) (by decide +kernel)) rfl
theorem wl_1013 : Cond.code ({ cls := "HeelsInModel", name := "set", desc := "(III)I" } : MethodName) prog_12_method_7_code 4 (Option.some FieldType.int) ∈ hh_ws := hh_in (List.mem_of_getElem? (i := 1122) (by decide +kernel)) rfl
theorem wl_1015 : Cond.instanceMethod ({ cls := "HeelsInModel", name := "copy", desc := "(IIIII)I" } : MethodName) ∈ hh_ws := hh_in (List.mem_of_getElem? (i := 1124) (by decide +kernel)) rfl
theorem wl_1016 : Cond.selects "HeelsInModel" ({ cls := "HeelsInModel", name := "copy", desc := "(IIIII)I" } : MethodName) ({ cls := "HeelsInModel", name := "copy", desc := "(IIIII)I" } : MethodName) ∈ hh_ws := hh_in (List.mem_of_getElem? (i := 1125) (by decide +kernel)) rfl
theorem wl_1017 : Cond.code ({ cls := "HeelsInModel", name := "copy", desc := "(IIIII)I" } : MethodName) prog_12_method_8_code 9 (Option.some FieldType.int) ∈ hh_ws := hh_in (List.mem_of_getElem? (i := 1126) (by decide +kernel)) rfl
theorem wl_1019 : Cond.instanceMethod ({ cls := "HeelsInModel", name := "drop", desc := "(I)I" } : MethodName) ∈ hh_ws := hh_in (List.mem_of_getElem? (i := 1128) (by decide +kernel)) rfl
theorem wl_1020 : Cond.selects "HeelsInModel" ({ cls := "HeelsInModel", name := "drop", desc := "(I)I" } : MethodName) ({ cls := "HeelsInModel", name := "drop", desc := "(I)I" } : MethodName) ∈ hh_ws := hh_in (List.mem_of_getElem? (i := 1129) (by decide +kernel)) rfl
theorem wl_1021 : Cond.code ({ cls := "HeelsInModel", name := "drop", desc := "(I)I" } : MethodName) prog_12_method_9_code 2 (Option.some FieldType.int) ∈ hh_ws := hh_in (List.mem_of_getElem? (i := 1130) (by decide +kernel)) rfl
theorem wl_1023 : Cond.instanceMethod ({ cls := "HeelsInModel", name := "feed", desc := "(JI)I" } : MethodName) ∈ hh_ws := hh_in (List.mem_of_getElem? (i := 1132) (by decide +kernel)) rfl
theorem wl_1024 : Cond.selects "HeelsInModel" ({ cls := "HeelsInModel", name := "feed", desc := "(JI)I" } : MethodName) ({ cls := "HeelsInModel", name := "feed", desc := "(JI)I" } : MethodName) ∈ hh_ws := hh_in (List.mem_of_getElem? (i := 1133) (by decide +kernel)) rfl
theorem wl_1025 : Cond.code ({ cls := "HeelsInModel", name := "feed", desc := "(JI)I" } : MethodName) prog_12_method_10_code 5 (Option.some FieldType.int) ∈ hh_ws := hh_in (List.mem_of_getElem? (i := 1134) (by decide +kernel)) rfl
theorem wl_1026 : Cond.constantLong "HeelsInModel" 87 (Int64.ofInt (8)) ∈ hh_ws := hh_in (List.mem_of_getElem? (i := 1135) (by decide +kernel)) rfl
theorem wl_1027 : Cond.constant "HeelsInModel" 92 (Int32.ofInt (-1000003)) ∈ hh_ws := hh_in (List.mem_of_getElem? (i := 1136) (by decide +kernel)) rfl
theorem wl_1028 : Cond.constantLong "HeelsInModel" 93 (Int64.ofInt (255)) ∈ hh_ws := hh_in (List.mem_of_getElem? (i := 1137) (by decide +kernel)) rfl
theorem wl_1030 : Cond.instanceMethod ({ cls := "HeelsInModel", name := "match", desc := "()I" } : MethodName) ∈ hh_ws := hh_in (List.mem_of_getElem? (i := 1139) (by decide +kernel)) rfl
theorem wl_1031 : Cond.selects "HeelsInModel" ({ cls := "HeelsInModel", name := "match", desc := "()I" } : MethodName) ({ cls := "HeelsInModel", name := "match", desc := "()I" } : MethodName) ∈ hh_ws := hh_in (List.mem_of_getElem? (i := 1140) (by decide +kernel)) rfl
theorem wl_1032 : Cond.code ({ cls := "HeelsInModel", name := "match", desc := "()I" } : MethodName) prog_12_method_29_code 2 (Option.some FieldType.int) ∈ hh_ws := hh_in (List.mem_of_getElem? (i := 1141) (by decide +kernel)) rfl
theorem wl_1033 : Cond.methodLink "HeelsInModel" 138 ({ cls := "HeelsInModel", name := "next", desc := "()V" } : MethodName) ∈ hh_ws := hh_in (List.mem_of_getElem? (i := 1142) (by decide +kernel)) rfl
theorem wl_1035 : Cond.instanceMethod ({ cls := "HeelsInModel", name := "next", desc := "()V" } : MethodName) ∈ hh_ws := hh_in (List.mem_of_getElem? (i := 1144) (by decide +kernel)) rfl
theorem wl_1036 : Cond.code ({ cls := "HeelsInModel", name := "next", desc := "()V" } : MethodName) prog_12_method_15_code 2 (Option.none : Option FieldType) ∈ hh_ws := hh_in (List.mem_of_getElem? (i := 1145) (by decide +kernel)) rfl
theorem wl_1037 : Cond.methodLink "HeelsInModel" 102 ({ cls := "HeelsInModel", name := "byteAt", desc := "(I)I" } : MethodName) ∈ hh_ws := hh_in (List.mem_of_getElem? (i := 1146) (by decide +kernel)) rfl
theorem wl_1039 : Cond.instanceMethod ({ cls := "HeelsInModel", name := "byteAt", desc := "(I)I" } : MethodName) ∈ hh_ws := hh_in (List.mem_of_getElem? (i := 1148) (by decide +kernel)) rfl
theorem wl_1040 : Cond.code ({ cls := "HeelsInModel", name := "byteAt", desc := "(I)I" } : MethodName) prog_12_method_11_code 2 (Option.some FieldType.int) ∈ hh_ws := hh_in (List.mem_of_getElem? (i := 1149) (by decide +kernel)) rfl
theorem wl_1041 : Cond.constant "HeelsInModel" 98 (Int32.ofInt (-1000000)) ∈ hh_ws := hh_in (List.mem_of_getElem? (i := 1150) (by decide +kernel)) rfl
theorem wl_1042 : Cond.methodLink "HeelsInModel" 119 ({ cls := "HeelsInModel", name := "isLetter", desc := "(I)Z" } : MethodName) ∈ hh_ws := hh_in (List.mem_of_getElem? (i := 1151) (by decide +kernel)) rfl
theorem wl_1043 : Cond.static ({ cls := "HeelsInModel", name := "isLetter", desc := "(I)Z" } : MethodName) ∈ hh_ws := hh_in (List.mem_of_getElem? (i := 1152) (by decide +kernel)) rfl
theorem wl_1044 : Cond.code ({ cls := "HeelsInModel", name := "isLetter", desc := "(I)Z" } : MethodName) prog_12_method_12_code 1 (Option.some FieldType.boolean) ∈ hh_ws := hh_in (List.mem_of_getElem? (i := 1153) (by decide +kernel)) rfl
theorem wl_1045 : Cond.methodLink "HeelsInModel" 108 ({ cls := "HeelsInModel", name := "isFigure", desc := "(I)Z" } : MethodName) ∈ hh_ws := hh_in (List.mem_of_getElem? (i := 1154) (by decide +kernel)) rfl
theorem wl_1046 : Cond.static ({ cls := "HeelsInModel", name := "isFigure", desc := "(I)Z" } : MethodName) ∈ hh_ws := hh_in (List.mem_of_getElem? (i := 1155) (by decide +kernel)) rfl
theorem wl_1047 : Cond.code ({ cls := "HeelsInModel", name := "isFigure", desc := "(I)Z" } : MethodName) prog_12_method_13_code 1 (Option.some FieldType.boolean) ∈ hh_ws := hh_in (List.mem_of_getElem? (i := 1156) (by decide +kernel)) rfl
theorem wl_1048 : Cond.methodLink "HeelsInModel" 122 ({ cls := "HeelsInModel", name := "nextNumber", desc := "()V" } : MethodName) ∈ hh_ws := hh_in (List.mem_of_getElem? (i := 1157) (by decide +kernel)) rfl
theorem wl_1050 : Cond.instanceMethod ({ cls := "HeelsInModel", name := "nextNumber", desc := "()V" } : MethodName) ∈ hh_ws := hh_in (List.mem_of_getElem? (i := 1159) (by decide +kernel)) rfl
theorem wl_1051 : Cond.code ({ cls := "HeelsInModel", name := "nextNumber", desc := "()V" } : MethodName) prog_12_method_14_code 3 (Option.none : Option FieldType) ∈ hh_ws := hh_in (List.mem_of_getElem? (i := 1160) (by decide +kernel)) rfl
theorem wl_1052 : Cond.constantLong "HeelsInModel" 111 (Int64.ofInt (3)) ∈ hh_ws := hh_in (List.mem_of_getElem? (i := 1161) (by decide +kernel)) rfl
theorem wl_1053 : Cond.methodLink "HeelsInModel" 204 ({ cls := "HeelsInModel", name := "readSide", desc := "(I)V" } : MethodName) ∈ hh_ws := hh_in (List.mem_of_getElem? (i := 1162) (by decide +kernel)) rfl
theorem wl_1055 : Cond.instanceMethod ({ cls := "HeelsInModel", name := "readSide", desc := "(I)V" } : MethodName) ∈ hh_ws := hh_in (List.mem_of_getElem? (i := 1164) (by decide +kernel)) rfl
theorem wl_1056 : Cond.code ({ cls := "HeelsInModel", name := "readSide", desc := "(I)V" } : MethodName) prog_12_method_28_code 2 (Option.none : Option FieldType) ∈ hh_ws := hh_in (List.mem_of_getElem? (i := 1165) (by decide +kernel)) rfl
theorem wl_1057 : Cond.methodLink "HeelsInModel" 174 ({ cls := "HeelsInModel", name := "word", desc := "()J" } : MethodName) ∈ hh_ws := hh_in (List.mem_of_getElem? (i := 1166) (by decide +kernel)) rfl
theorem wl_1059 : Cond.instanceMethod ({ cls := "HeelsInModel", name := "word", desc := "()J" } : MethodName) ∈ hh_ws := hh_in (List.mem_of_getElem? (i := 1168) (by decide +kernel)) rfl
theorem wl_1060 : Cond.code ({ cls := "HeelsInModel", name := "word", desc := "()J" } : MethodName) prog_12_method_18_code 4 (Option.some FieldType.long) ∈ hh_ws := hh_in (List.mem_of_getElem? (i := 1169) (by decide +kernel)) rfl
theorem wl_1061 : Cond.constantLong "HeelsInModel" 192 (Int64.ofInt (1936286821)) ∈ hh_ws := hh_in (List.mem_of_getElem? (i := 1170) (by decide +kernel)) rfl
theorem wl_1062 : Cond.methodLink "HeelsInModel" 141 ({ cls := "HeelsInModel", name := "must", desc := "(Z)V" } : MethodName) ∈ hh_ws := hh_in (List.mem_of_getElem? (i := 1171) (by decide +kernel)) rfl
theorem wl_1064 : Cond.instanceMethod ({ cls := "HeelsInModel", name := "must", desc := "(Z)V" } : MethodName) ∈ hh_ws := hh_in (List.mem_of_getElem? (i := 1173) (by decide +kernel)) rfl
theorem wl_1065 : Cond.code ({ cls := "HeelsInModel", name := "must", desc := "(Z)V" } : MethodName) prog_12_method_17_code 2 (Option.none : Option FieldType) ∈ hh_ws := hh_in (List.mem_of_getElem? (i := 1174) (by decide +kernel)) rfl
theorem wl_1066 : Cond.methodLink "HeelsInModel" 134 ({ cls := "HeelsInModel", name := "bad", desc := "(I)V" } : MethodName) ∈ hh_ws := hh_in (List.mem_of_getElem? (i := 1175) (by decide +kernel)) rfl
theorem wl_1068 : Cond.instanceMethod ({ cls := "HeelsInModel", name := "bad", desc := "(I)V" } : MethodName) ∈ hh_ws := hh_in (List.mem_of_getElem? (i := 1177) (by decide +kernel)) rfl
theorem wl_1069 : Cond.code ({ cls := "HeelsInModel", name := "bad", desc := "(I)V" } : MethodName) prog_12_method_16_code 2 (Option.none : Option FieldType) ∈ hh_ws := hh_in (List.mem_of_getElem? (i := 1178) (by decide +kernel)) rfl
theorem wl_1070 : Cond.methodLink "HeelsInModel" 171 ({ cls := "HeelsInModel", name := "mustEnd", desc := "()V" } : MethodName) ∈ hh_ws := hh_in (List.mem_of_getElem? (i := 1179) (by decide +kernel)) rfl
theorem wl_1072 : Cond.instanceMethod ({ cls := "HeelsInModel", name := "mustEnd", desc := "()V" } : MethodName) ∈ hh_ws := hh_in (List.mem_of_getElem? (i := 1181) (by decide +kernel)) rfl
theorem wl_1073 : Cond.code ({ cls := "HeelsInModel", name := "mustEnd", desc := "()V" } : MethodName) prog_12_method_20_code 1 (Option.none : Option FieldType) ∈ hh_ws := hh_in (List.mem_of_getElem? (i := 1182) (by decide +kernel)) rfl
theorem wl_1074 : Cond.constantLong "HeelsInModel" 194 (Int64.ofInt (123649632527730)) ∈ hh_ws := hh_in (List.mem_of_getElem? (i := 1183) (by decide +kernel)) rfl
theorem wl_1075 : Cond.methodLink "HeelsInModel" 196 ({ cls := "HeelsInModel", name := "readPuller", desc := "(I)V" } : MethodName) ∈ hh_ws := hh_in (List.mem_of_getElem? (i := 1184) (by decide +kernel)) rfl
theorem wl_1077 : Cond.instanceMethod ({ cls := "HeelsInModel", name := "readPuller", desc := "(I)V" } : MethodName) ∈ hh_ws := hh_in (List.mem_of_getElem? (i := 1186) (by decide +kernel)) rfl
theorem wl_1078 : Cond.code ({ cls := "HeelsInModel", name := "readPuller", desc := "(I)V" } : MethodName) prog_12_method_26_code 4 (Option.none : Option FieldType) ∈ hh_ws := hh_in (List.mem_of_getElem? (i := 1187) (by decide +kernel)) rfl
theorem wl_1079 : Cond.methodLink "HeelsInModel" 161 ({ cls := "HeelsInModel", name := "leastOf", desc := "(I)I" } : MethodName) ∈ hh_ws := hh_in (List.mem_of_getElem? (i := 1188) (by decide +kernel)) rfl
theorem wl_1080 : Cond.static ({ cls := "HeelsInModel", name := "leastOf", desc := "(I)I" } : MethodName) ∈ hh_ws := hh_in (List.mem_of_getElem? (i := 1189) (by decide +kernel)) rfl
theorem wl_1081 : Cond.code ({ cls := "HeelsInModel", name := "leastOf", desc := "(I)I" } : MethodName) prog_12_method_24_code 1 (Option.some FieldType.int) ∈ hh_ws := hh_in (List.mem_of_getElem? (i := 1190) (by decide +kernel)) rfl
theorem wl_1082 : Cond.methodLink "HeelsInModel" 164 ({ cls := "HeelsInModel", name := "mostOf", desc := "(I)I" } : MethodName) ∈ hh_ws := hh_in (List.mem_of_getElem? (i := 1191) (by decide +kernel)) rfl
theorem wl_1083 : Cond.static ({ cls := "HeelsInModel", name := "mostOf", desc := "(I)I" } : MethodName) ∈ hh_ws := hh_in (List.mem_of_getElem? (i := 1192) (by decide +kernel)) rfl
theorem wl_1084 : Cond.code ({ cls := "HeelsInModel", name := "mostOf", desc := "(I)I" } : MethodName) prog_12_method_25_code 1 (Option.some FieldType.int) ∈ hh_ws := hh_in (List.mem_of_getElem? (i := 1193) (by decide +kernel)) rfl
theorem wl_1085 : Cond.methodLink "HeelsInModel" 167 ({ cls := "HeelsInModel", name := "number", desc := "(II)I" } : MethodName) ∈ hh_ws := hh_in (List.mem_of_getElem? (i := 1194) (by decide +kernel)) rfl
theorem wl_1087 : Cond.instanceMethod ({ cls := "HeelsInModel", name := "number", desc := "(II)I" } : MethodName) ∈ hh_ws := hh_in (List.mem_of_getElem? (i := 1196) (by decide +kernel)) rfl
theorem wl_1088 : Cond.code ({ cls := "HeelsInModel", name := "number", desc := "(II)I" } : MethodName) prog_12_method_19_code 4 (Option.some FieldType.int) ∈ hh_ws := hh_in (List.mem_of_getElem? (i := 1197) (by decide +kernel)) rfl
theorem wl_1089 : Cond.constantLong "HeelsInModel" 199 (Int64.ofInt (2003330414)) ∈ hh_ws := hh_in (List.mem_of_getElem? (i := 1198) (by decide +kernel)) rfl
theorem wl_1090 : Cond.methodLink "HeelsInModel" 201 ({ cls := "HeelsInModel", name := "readRule", desc := "(I)V" } : MethodName) ∈ hh_ws := hh_in (List.mem_of_getElem? (i := 1199) (by decide +kernel)) rfl
theorem wl_1092 : Cond.instanceMethod ({ cls := "HeelsInModel", name := "readRule", desc := "(I)V" } : MethodName) ∈ hh_ws := hh_in (List.mem_of_getElem? (i := 1201) (by decide +kernel)) rfl
theorem wl_1093 : Cond.code ({ cls := "HeelsInModel", name := "readRule", desc := "(I)V" } : MethodName) prog_12_method_27_code 8 (Option.none : Option FieldType) ∈ hh_ws := hh_in (List.mem_of_getElem? (i := 1202) (by decide +kernel)) rfl
theorem wl_1094 : Cond.methodLink "HeelsInModel" 178 ({ cls := "HeelsInModel", name := "whatOf", desc := "(J)I" } : MethodName) ∈ hh_ws := hh_in (List.mem_of_getElem? (i := 1203) (by decide +kernel)) rfl
theorem wl_1095 : Cond.static ({ cls := "HeelsInModel", name := "whatOf", desc := "(J)I" } : MethodName) ∈ hh_ws := hh_in (List.mem_of_getElem? (i := 1204) (by decide +kernel)) rfl
theorem wl_1096 : Cond.code ({ cls := "HeelsInModel", name := "whatOf", desc := "(J)I" } : MethodName) prog_12_method_21_code 2 (Option.some FieldType.int) ∈ hh_ws := hh_in (List.mem_of_getElem? (i := 1205) (by decide +kernel)) rfl
theorem wl_1097 : Cond.constantLong "HeelsInModel" 145 (Int64.ofInt (108243466679400)) ∈ hh_ws := hh_in (List.mem_of_getElem? (i := 1206) (by decide +kernel)) rfl
theorem wl_1098 : Cond.constantLong "HeelsInModel" 147 (Int64.ofInt (127991726830195)) ∈ hh_ws := hh_in (List.mem_of_getElem? (i := 1207) (by decide +kernel)) rfl
theorem wl_1099 : Cond.constantLong "HeelsInModel" 149 (Int64.ofInt (127991944667492)) ∈ hh_ws := hh_in (List.mem_of_getElem? (i := 1208) (by decide +kernel)) rfl
theorem wl_1100 : Cond.constantLong "HeelsInModel" 151 (Int64.ofInt (499917943912)) ∈ hh_ws := hh_in (List.mem_of_getElem? (i := 1209) (by decide +kernel)) rfl
theorem wl_1101 : Cond.methodLink "HeelsInModel" 182 ({ cls := "HeelsInModel", name := "named", desc := "(I)I" } : MethodName) ∈ hh_ws := hh_in (List.mem_of_getElem? (i := 1210) (by decide +kernel)) rfl
theorem wl_1103 : Cond.instanceMethod ({ cls := "HeelsInModel", name := "named", desc := "(I)I" } : MethodName) ∈ hh_ws := hh_in (List.mem_of_getElem? (i := 1212) (by decide +kernel)) rfl
theorem wl_1104 : Cond.code ({ cls := "HeelsInModel", name := "named", desc := "(I)I" } : MethodName) prog_12_method_23_code 2 (Option.some FieldType.int) ∈ hh_ws := hh_in (List.mem_of_getElem? (i := 1213) (by decide +kernel)) rfl
theorem wl_1105 : Cond.constantLong "HeelsInModel" 185 (Int64.ofInt (422608400247)) ∈ hh_ws := hh_in (List.mem_of_getElem? (i := 1214) (by decide +kernel)) rfl
theorem wl_1106 : Cond.constantLong "HeelsInModel" 187 (Int64.ofInt (418263299685)) ∈ hh_ws := hh_in (List.mem_of_getElem? (i := 1215) (by decide +kernel)) rfl
theorem wl_1107 : Cond.methodLink "HeelsInModel" 189 ({ cls := "HeelsInModel", name := "doOf", desc := "(J)I" } : MethodName) ∈ hh_ws := hh_in (List.mem_of_getElem? (i := 1216) (by decide +kernel)) rfl
theorem wl_1108 : Cond.static ({ cls := "HeelsInModel", name := "doOf", desc := "(J)I" } : MethodName) ∈ hh_ws := hh_in (List.mem_of_getElem? (i := 1217) (by decide +kernel)) rfl
theorem wl_1109 : Cond.code ({ cls := "HeelsInModel", name := "doOf", desc := "(J)I" } : MethodName) prog_12_method_22_code 2 (Option.some FieldType.int) ∈ hh_ws := hh_in (List.mem_of_getElem? (i := 1218) (by decide +kernel)) rfl
theorem wl_1110 : Cond.constantLong "HeelsInModel" 153 (Int64.ofInt (1752132708)) ∈ hh_ws := hh_in (List.mem_of_getElem? (i := 1219) (by decide +kernel)) rfl
theorem wl_1111 : Cond.constantLong "HeelsInModel" 155 (Int64.ofInt (448377484901)) ∈ hh_ws := hh_in (List.mem_of_getElem? (i := 1220) (by decide +kernel)) rfl
theorem wl_1112 : Cond.constantLong "HeelsInModel" 157 (Int64.ofInt (27988572849333618)) ∈ hh_ws := hh_in (List.mem_of_getElem? (i := 1221) (by decide +kernel)) rfl
theorem wl_1113 : Cond.constantLong "HeelsInModel" 159 (Int64.ofInt (1919251316)) ∈ hh_ws := hh_in (List.mem_of_getElem? (i := 1222) (by decide +kernel)) rfl
theorem wl_1114 : Cond.constantLong "HeelsInModel" 207 (Int64.ofInt (113741193899620)) ∈ hh_ws := hh_in (List.mem_of_getElem? (i := 1223) (by decide +kernel)) rfl
theorem wl_1115 : Cond.constant "HeelsInModel" 212 (Int32.ofInt (-1000100)) ∈ hh_ws := hh_in (List.mem_of_getElem? (i := 1224) (by decide +kernel)) rfl
theorem wl_1117 : Cond.instanceMethod ({ cls := "HeelsInModel", name := "fault", desc := "()I" } : MethodName) ∈ hh_ws := hh_in (List.mem_of_getElem? (i := 1226) (by decide +kernel)) rfl
theorem wl_1118 : Cond.selects "HeelsInModel" ({ cls := "HeelsInModel", name := "fault", desc := "()I" } : MethodName) ({ cls := "HeelsInModel", name := "fault", desc := "()I" } : MethodName) ∈ hh_ws := hh_in (List.mem_of_getElem? (i := 1227) (by decide +kernel)) rfl
theorem wl_1119 : Cond.code ({ cls := "HeelsInModel", name := "fault", desc := "()I" } : MethodName) prog_12_method_30_code 1 (Option.some FieldType.int) ∈ hh_ws := hh_in (List.mem_of_getElem? (i := 1228) (by decide +kernel)) rfl
theorem wl_1121 : Cond.instanceMethod ({ cls := "HeelsInModel", name := "puller", desc := "(III)I" } : MethodName) ∈ hh_ws := hh_in (List.mem_of_getElem? (i := 1230) (by decide +kernel)) rfl
theorem wl_1122 : Cond.selects "HeelsInModel" ({ cls := "HeelsInModel", name := "puller", desc := "(III)I" } : MethodName) ({ cls := "HeelsInModel", name := "puller", desc := "(III)I" } : MethodName) ∈ hh_ws := hh_in (List.mem_of_getElem? (i := 1231) (by decide +kernel)) rfl
theorem wl_1123 : Cond.code ({ cls := "HeelsInModel", name := "puller", desc := "(III)I" } : MethodName) prog_12_method_34_code 4 (Option.some FieldType.int) ∈ hh_ws := hh_in (List.mem_of_getElem? (i := 1232) (by decide +kernel)) rfl
theorem wl_1124 : Cond.methodLink "HeelsInModel" 220 ({ cls := "HeelsInModel", name := "isPuller", desc := "(II)Z" } : MethodName) ∈ hh_ws := hh_in (List.mem_of_getElem? (i := 1233) (by decide +kernel)) rfl
theorem wl_1126 : Cond.instanceMethod ({ cls := "HeelsInModel", name := "isPuller", desc := "(II)Z" } : MethodName) ∈ hh_ws := hh_in (List.mem_of_getElem? (i := 1235) (by decide +kernel)) rfl
theorem wl_1127 : Cond.code ({ cls := "HeelsInModel", name := "isPuller", desc := "(II)Z" } : MethodName) prog_12_method_32_code 3 (Option.some FieldType.boolean) ∈ hh_ws := hh_in (List.mem_of_getElem? (i := 1236) (by decide +kernel)) rfl
theorem wl_1128 : Cond.methodLink "HeelsInModel" 217 ({ cls := "HeelsInModel", name := "isSide", desc := "(I)Z" } : MethodName) ∈ hh_ws := hh_in (List.mem_of_getElem? (i := 1237) (by decide +kernel)) rfl
theorem wl_1129 : Cond.static ({ cls := "HeelsInModel", name := "isSide", desc := "(I)Z" } : MethodName) ∈ hh_ws := hh_in (List.mem_of_getElem? (i := 1238) (by decide +kernel)) rfl
theorem wl_1130 : Cond.code ({ cls := "HeelsInModel", name := "isSide", desc := "(I)Z" } : MethodName) prog_12_method_31_code 1 (Option.some FieldType.boolean) ∈ hh_ws := hh_in (List.mem_of_getElem? (i := 1239) (by decide +kernel)) rfl
theorem wl_1131 : Cond.constantLong "HeelsInModel" 224 (Int64.ofInt (4)) ∈ hh_ws := hh_in (List.mem_of_getElem? (i := 1240) (by decide +kernel)) rfl
theorem wl_1132 : Cond.methodLink "HeelsInModel" 226 ({ cls := "HeelsInModel", name := "of", desc := "(III)I" } : MethodName) ∈ hh_ws := hh_in (List.mem_of_getElem? (i := 1241) (by decide +kernel)) rfl
theorem wl_1134 : Cond.instanceMethod ({ cls := "HeelsInModel", name := "of", desc := "(III)I" } : MethodName) ∈ hh_ws := hh_in (List.mem_of_getElem? (i := 1243) (by decide +kernel)) rfl
theorem wl_1135 : Cond.code ({ cls := "HeelsInModel", name := "of", desc := "(III)I" } : MethodName) prog_12_method_33_code 4 (Option.some FieldType.int) ∈ hh_ws := hh_in (List.mem_of_getElem? (i := 1244) (by decide +kernel)) rfl
theorem wl_1137 : Cond.instanceMethod ({ cls := "HeelsInModel", name := "begin", desc := "(I)I" } : MethodName) ∈ hh_ws := hh_in (List.mem_of_getElem? (i := 1246) (by decide +kernel)) rfl
theorem wl_1138 : Cond.selects "HeelsInModel" ({ cls := "HeelsInModel", name := "begin", desc := "(I)I" } : MethodName) ({ cls := "HeelsInModel", name := "begin", desc := "(I)I" } : MethodName) ∈ hh_ws := hh_in (List.mem_of_getElem? (i := 1247) (by decide +kernel)) rfl
theorem wl_1139 : Cond.code ({ cls := "HeelsInModel", name := "begin", desc := "(I)I" } : MethodName) prog_12_method_36_code 2 (Option.some FieldType.int) ∈ hh_ws := hh_in (List.mem_of_getElem? (i := 1248) (by decide +kernel)) rfl
theorem wl_1140 : Cond.constant "HeelsInModel" 230 (Int32.ofInt (-1000002)) ∈ hh_ws := hh_in (List.mem_of_getElem? (i := 1249) (by decide +kernel)) rfl
theorem wl_1141 : Cond.methodLink "HeelsInModel" 231 ({ cls := "HeelsInModel", name := "start", desc := "(I)V" } : MethodName) ∈ hh_ws := hh_in (List.mem_of_getElem? (i := 1250) (by decide +kernel)) rfl
theorem wl_1143 : Cond.instanceMethod ({ cls := "HeelsInModel", name := "start", desc := "(I)V" } : MethodName) ∈ hh_ws := hh_in (List.mem_of_getElem? (i := 1252) (by decide +kernel)) rfl
theorem wl_1144 : Cond.code ({ cls := "HeelsInModel", name := "start", desc := "(I)V" } : MethodName) prog_12_method_35_code 3 (Option.none : Option FieldType) ∈ hh_ws := hh_in (List.mem_of_getElem? (i := 1253) (by decide +kernel)) rfl
theorem wl_1146 : Cond.instanceMethod ({ cls := "HeelsInModel", name := "go", desc := "(I)I" } : MethodName) ∈ hh_ws := hh_in (List.mem_of_getElem? (i := 1255) (by decide +kernel)) rfl
theorem wl_1147 : Cond.selects "HeelsInModel" ({ cls := "HeelsInModel", name := "go", desc := "(I)I" } : MethodName) ({ cls := "HeelsInModel", name := "go", desc := "(I)I" } : MethodName) ∈ hh_ws := hh_in (List.mem_of_getElem? (i := 1256) (by decide +kernel)) rfl
theorem wl_1148 : Cond.code ({ cls := "HeelsInModel", name := "go", desc := "(I)I" } : MethodName) prog_12_method_45_code 2 (Option.some FieldType.int) ∈ hh_ws := hh_in (List.mem_of_getElem? (i := 1257) (by decide +kernel)) rfl
theorem wl_1149 : Cond.constantLong "HeelsInModel" 257 (Int64.ofInt (100)) ∈ hh_ws := hh_in (List.mem_of_getElem? (i := 1258) (by decide +kernel)) rfl
theorem wl_1150 : Cond.methodLink "HeelsInModel" 259 ({ cls := "HeelsInModel", name := "goOn", desc := "(I)I" } : MethodName) ∈ hh_ws := hh_in (List.mem_of_getElem? (i := 1259) (by decide +kernel)) rfl
theorem wl_1152 : Cond.instanceMethod ({ cls := "HeelsInModel", name := "goOn", desc := "(I)I" } : MethodName) ∈ hh_ws := hh_in (List.mem_of_getElem? (i := 1261) (by decide +kernel)) rfl
theorem wl_1153 : Cond.code ({ cls := "HeelsInModel", name := "goOn", desc := "(I)I" } : MethodName) prog_12_method_44_code 4 (Option.some FieldType.int) ∈ hh_ws := hh_in (List.mem_of_getElem? (i := 1262) (by decide +kernel)) rfl
theorem wl_1154 : Cond.methodLink "HeelsInModel" 250 ({ cls := "HeelsInModel", name := "ruled", desc := "(I)I" } : MethodName) ∈ hh_ws := hh_in (List.mem_of_getElem? (i := 1263) (by decide +kernel)) rfl
theorem wl_1156 : Cond.instanceMethod ({ cls := "HeelsInModel", name := "ruled", desc := "(I)I" } : MethodName) ∈ hh_ws := hh_in (List.mem_of_getElem? (i := 1265) (by decide +kernel)) rfl
theorem wl_1157 : Cond.code ({ cls := "HeelsInModel", name := "ruled", desc := "(I)I" } : MethodName) prog_12_method_38_code 6 (Option.some FieldType.int) ∈ hh_ws := hh_in (List.mem_of_getElem? (i := 1266) (by decide +kernel)) rfl
theorem wl_1158 : Cond.methodLink "HeelsInModel" 234 ({ cls := "HeelsInModel", name := "breathOf", desc := "(I)I" } : MethodName) ∈ hh_ws := hh_in (List.mem_of_getElem? (i := 1267) (by decide +kernel)) rfl
theorem wl_1160 : Cond.instanceMethod ({ cls := "HeelsInModel", name := "breathOf", desc := "(I)I" } : MethodName) ∈ hh_ws := hh_in (List.mem_of_getElem? (i := 1269) (by decide +kernel)) rfl
theorem wl_1161 : Cond.code ({ cls := "HeelsInModel", name := "breathOf", desc := "(I)I" } : MethodName) prog_12_method_37_code 4 (Option.some FieldType.int) ∈ hh_ws := hh_in (List.mem_of_getElem? (i := 1270) (by decide +kernel)) rfl
theorem wl_1162 : Cond.methodLink "HeelsInModel" 253 ({ cls := "HeelsInModel", name := "tenth", desc := "(II)V" } : MethodName) ∈ hh_ws := hh_in (List.mem_of_getElem? (i := 1271) (by decide +kernel)) rfl
theorem wl_1164 : Cond.instanceMethod ({ cls := "HeelsInModel", name := "tenth", desc := "(II)V" } : MethodName) ∈ hh_ws := hh_in (List.mem_of_getElem? (i := 1273) (by decide +kernel)) rfl
theorem wl_1165 : Cond.code ({ cls := "HeelsInModel", name := "tenth", desc := "(II)V" } : MethodName) prog_12_method_42_code 6 (Option.none : Option FieldType) ∈ hh_ws := hh_in (List.mem_of_getElem? (i := 1274) (by decide +kernel)) rfl
theorem wl_1166 : Cond.methodLink "HeelsInModel" 240 ({ cls := "HeelsInModel", name := "does", desc := "(IIIZ)I" } : MethodName) ∈ hh_ws := hh_in (List.mem_of_getElem? (i := 1275) (by decide +kernel)) rfl
theorem wl_1168 : Cond.instanceMethod ({ cls := "HeelsInModel", name := "does", desc := "(IIIZ)I" } : MethodName) ∈ hh_ws := hh_in (List.mem_of_getElem? (i := 1277) (by decide +kernel)) rfl
theorem wl_1169 : Cond.code ({ cls := "HeelsInModel", name := "does", desc := "(IIIZ)I" } : MethodName) prog_12_method_40_code 10 (Option.some FieldType.int) ∈ hh_ws := hh_in (List.mem_of_getElem? (i := 1278) (by decide +kernel)) rfl
theorem wl_1170 : Cond.methodLink "HeelsInModel" 237 ({ cls := "HeelsInModel", name := "takes", desc := "(I)I" } : MethodName) ∈ hh_ws := hh_in (List.mem_of_getElem? (i := 1279) (by decide +kernel)) rfl
theorem wl_1171 : Cond.static ({ cls := "HeelsInModel", name := "takes", desc := "(I)I" } : MethodName) ∈ hh_ws := hh_in (List.mem_of_getElem? (i := 1280) (by decide +kernel)) rfl
theorem wl_1172 : Cond.code ({ cls := "HeelsInModel", name := "takes", desc := "(I)I" } : MethodName) prog_12_method_39_code 1 (Option.some FieldType.int) ∈ hh_ws := hh_in (List.mem_of_getElem? (i := 1281) (by decide +kernel)) rfl
theorem wl_1173 : Cond.methodLink "HeelsInModel" 244 ({ cls := "HeelsInModel", name := "endOf", desc := "(I)I" } : MethodName) ∈ hh_ws := hh_in (List.mem_of_getElem? (i := 1282) (by decide +kernel)) rfl
theorem wl_1175 : Cond.instanceMethod ({ cls := "HeelsInModel", name := "endOf", desc := "(I)I" } : MethodName) ∈ hh_ws := hh_in (List.mem_of_getElem? (i := 1284) (by decide +kernel)) rfl
theorem wl_1176 : Cond.code ({ cls := "HeelsInModel", name := "endOf", desc := "(I)I" } : MethodName) prog_12_method_41_code 2 (Option.some FieldType.int) ∈ hh_ws := hh_in (List.mem_of_getElem? (i := 1285) (by decide +kernel)) rfl
theorem wl_1177 : Cond.methodLink "HeelsInModel" 247 ({ cls := "HeelsInModel", name := "keepTenth", desc := "()V" } : MethodName) ∈ hh_ws := hh_in (List.mem_of_getElem? (i := 1286) (by decide +kernel)) rfl
theorem wl_1179 : Cond.instanceMethod ({ cls := "HeelsInModel", name := "keepTenth", desc := "()V" } : MethodName) ∈ hh_ws := hh_in (List.mem_of_getElem? (i := 1288) (by decide +kernel)) rfl
theorem wl_1180 : Cond.code ({ cls := "HeelsInModel", name := "keepTenth", desc := "()V" } : MethodName) prog_12_method_43_code 2 (Option.none : Option FieldType) ∈ hh_ws := hh_in (List.mem_of_getElem? (i := 1289) (by decide +kernel)) rfl
theorem wl_1182 : Cond.instanceMethod ({ cls := "HeelsInModel", name := "told", desc := "(III)I" } : MethodName) ∈ hh_ws := hh_in (List.mem_of_getElem? (i := 1291) (by decide +kernel)) rfl
theorem wl_1183 : Cond.selects "HeelsInModel" ({ cls := "HeelsInModel", name := "told", desc := "(III)I" } : MethodName) ({ cls := "HeelsInModel", name := "told", desc := "(III)I" } : MethodName) ∈ hh_ws := hh_in (List.mem_of_getElem? (i := 1292) (by decide +kernel)) rfl
theorem wl_1184 : Cond.code ({ cls := "HeelsInModel", name := "told", desc := "(III)I" } : MethodName) prog_12_method_46_code 6 (Option.some FieldType.int) ∈ hh_ws := hh_in (List.mem_of_getElem? (i := 1293) (by decide +kernel)) rfl
theorem wl_1185 : Cond.constantLong "HeelsInModel" 262 (Int64.ofInt (20)) ∈ hh_ws := hh_in (List.mem_of_getElem? (i := 1294) (by decide +kernel)) rfl
theorem wl_1187 : Cond.instanceMethod ({ cls := "HeelsInModel", name := "pull", desc := "(I)I" } : MethodName) ∈ hh_ws := hh_in (List.mem_of_getElem? (i := 1296) (by decide +kernel)) rfl
theorem wl_1188 : Cond.selects "HeelsInModel" ({ cls := "HeelsInModel", name := "pull", desc := "(I)I" } : MethodName) ({ cls := "HeelsInModel", name := "pull", desc := "(I)I" } : MethodName) ∈ hh_ws := hh_in (List.mem_of_getElem? (i := 1297) (by decide +kernel)) rfl
theorem wl_1189 : Cond.code ({ cls := "HeelsInModel", name := "pull", desc := "(I)I" } : MethodName) prog_12_method_48_code 2 (Option.some FieldType.int) ∈ hh_ws := hh_in (List.mem_of_getElem? (i := 1298) (by decide +kernel)) rfl
theorem wl_1190 : Cond.constantLong "HeelsInModel" 264 (Int64.ofInt (6)) ∈ hh_ws := hh_in (List.mem_of_getElem? (i := 1299) (by decide +kernel)) rfl
theorem wl_1191 : Cond.methodLink "HeelsInModel" 266 ({ cls := "HeelsInModel", name := "noneBelow", desc := "(I)I" } : MethodName) ∈ hh_ws := hh_in (List.mem_of_getElem? (i := 1300) (by decide +kernel)) rfl
theorem wl_1192 : Cond.static ({ cls := "HeelsInModel", name := "noneBelow", desc := "(I)I" } : MethodName) ∈ hh_ws := hh_in (List.mem_of_getElem? (i := 1301) (by decide +kernel)) rfl
theorem wl_1193 : Cond.code ({ cls := "HeelsInModel", name := "noneBelow", desc := "(I)I" } : MethodName) prog_12_method_47_code 1 (Option.some FieldType.int) ∈ hh_ws := hh_in (List.mem_of_getElem? (i := 1302) (by decide +kernel)) rfl
theorem wl_1195 : Cond.instanceMethod ({ cls := "HeelsInModel", name := "doing", desc := "(III)I" } : MethodName) ∈ hh_ws := hh_in (List.mem_of_getElem? (i := 1304) (by decide +kernel)) rfl
theorem wl_1196 : Cond.selects "HeelsInModel" ({ cls := "HeelsInModel", name := "doing", desc := "(III)I" } : MethodName) ({ cls := "HeelsInModel", name := "doing", desc := "(III)I" } : MethodName) ∈ hh_ws := hh_in (List.mem_of_getElem? (i := 1305) (by decide +kernel)) rfl
theorem wl_1197 : Cond.code ({ cls := "HeelsInModel", name := "doing", desc := "(III)I" } : MethodName) prog_12_method_49_code 4 (Option.some FieldType.int) ∈ hh_ws := hh_in (List.mem_of_getElem? (i := 1306) (by decide +kernel)) rfl
theorem wl_1199 : Cond.instanceMethod ({ cls := "HeelsInModel", name := "later", desc := "(II)I" } : MethodName) ∈ hh_ws := hh_in (List.mem_of_getElem? (i := 1308) (by decide +kernel)) rfl
theorem wl_1200 : Cond.selects "HeelsInModel" ({ cls := "HeelsInModel", name := "later", desc := "(II)I" } : MethodName) ({ cls := "HeelsInModel", name := "later", desc := "(II)I" } : MethodName) ∈ hh_ws := hh_in (List.mem_of_getElem? (i := 1309) (by decide +kernel)) rfl
theorem wl_1201 : Cond.code ({ cls := "HeelsInModel", name := "later", desc := "(II)I" } : MethodName) prog_12_method_50_code 3 (Option.some FieldType.int) ∈ hh_ws := hh_in (List.mem_of_getElem? (i := 1310) (by decide +kernel)) rfl
theorem wl_1203 : Cond.instanceMethod ({ cls := "HeelsInModel", name := "three", desc := "(II)I" } : MethodName) ∈ hh_ws := hh_in (List.mem_of_getElem? (i := 1312) (by decide +kernel)) rfl
theorem wl_1204 : Cond.selects "HeelsInModel" ({ cls := "HeelsInModel", name := "three", desc := "(II)I" } : MethodName) ({ cls := "HeelsInModel", name := "three", desc := "(II)I" } : MethodName) ∈ hh_ws := hh_in (List.mem_of_getElem? (i := 1313) (by decide +kernel)) rfl
theorem wl_1205 : Cond.code ({ cls := "HeelsInModel", name := "three", desc := "(II)I" } : MethodName) prog_12_method_51_code 5 (Option.some FieldType.int) ∈ hh_ws := hh_in (List.mem_of_getElem? (i := 1314) (by decide +kernel)) rfl
theorem wl_1206 : Cond.constantLong "HeelsInModel" 269 (Int64.ofInt (200)) ∈ hh_ws := hh_in (List.mem_of_getElem? (i := 1315) (by decide +kernel)) rfl
theorem wl_1208 : Cond.instanceMethod ({ cls := "HeelsInModel", name := "together", desc := "(III)I" } : MethodName) ∈ hh_ws := hh_in (List.mem_of_getElem? (i := 1317) (by decide +kernel)) rfl
theorem wl_1209 : Cond.selects "HeelsInModel" ({ cls := "HeelsInModel", name := "together", desc := "(III)I" } : MethodName) ({ cls := "HeelsInModel", name := "together", desc := "(III)I" } : MethodName) ∈ hh_ws := hh_in (List.mem_of_getElem? (i := 1318) (by decide +kernel)) rfl
theorem wl_1210 : Cond.code ({ cls := "HeelsInModel", name := "together", desc := "(III)I" } : MethodName) prog_12_method_52_code 11 (Option.some FieldType.int) ∈ hh_ws := hh_in (List.mem_of_getElem? (i := 1319) (by decide +kernel)) rfl
theorem wl_1211 : Cond.constantLong "HeelsInModel" 271 (Int64.ofInt (50)) ∈ hh_ws := hh_in (List.mem_of_getElem? (i := 1320) (by decide +kernel)) rfl
theorem wl_1213 : Cond.instanceMethod ({ cls := "HeelsInModel", name := "stands", desc := "(II)I" } : MethodName) ∈ hh_ws := hh_in (List.mem_of_getElem? (i := 1322) (by decide +kernel)) rfl
theorem wl_1214 : Cond.selects "HeelsInModel" ({ cls := "HeelsInModel", name := "stands", desc := "(II)I" } : MethodName) ({ cls := "HeelsInModel", name := "stands", desc := "(II)I" } : MethodName) ∈ hh_ws := hh_in (List.mem_of_getElem? (i := 1323) (by decide +kernel)) rfl
theorem wl_1215 : Cond.code ({ cls := "HeelsInModel", name := "stands", desc := "(II)I" } : MethodName) prog_12_method_55_code 10 (Option.some FieldType.int) ∈ hh_ws := hh_in (List.mem_of_getElem? (i := 1324) (by decide +kernel)) rfl
theorem wl_1216 : Cond.methodLink "HeelsInModel" 273 ({ cls := "HeelsInModel", name := "bits", desc := "(I)I" } : MethodName) ∈ hh_ws := hh_in (List.mem_of_getElem? (i := 1325) (by decide +kernel)) rfl
theorem wl_1217 : Cond.static ({ cls := "HeelsInModel", name := "bits", desc := "(I)I" } : MethodName) ∈ hh_ws := hh_in (List.mem_of_getElem? (i := 1326) (by decide +kernel)) rfl
theorem wl_1218 : Cond.code ({ cls := "HeelsInModel", name := "bits", desc := "(I)I" } : MethodName) prog_12_method_53_code 3 (Option.some FieldType.int) ∈ hh_ws := hh_in (List.mem_of_getElem? (i := 1327) (by decide +kernel)) rfl
theorem wl_1219 : Cond.methodLink "HeelsInModel" 276 ({ cls := "HeelsInModel", name := "worthAt", desc := "(III)I" } : MethodName) ∈ hh_ws := hh_in (List.mem_of_getElem? (i := 1328) (by decide +kernel)) rfl
theorem wl_1221 : Cond.instanceMethod ({ cls := "HeelsInModel", name := "worthAt", desc := "(III)I" } : MethodName) ∈ hh_ws := hh_in (List.mem_of_getElem? (i := 1330) (by decide +kernel)) rfl
theorem wl_1222 : Cond.code ({ cls := "HeelsInModel", name := "worthAt", desc := "(III)I" } : MethodName) prog_12_method_54_code 6 (Option.some FieldType.int) ∈ hh_ws := hh_in (List.mem_of_getElem? (i := 1331) (by decide +kernel)) rfl
theorem wl_1224 : Cond.instanceMethod ({ cls := "HeelsInModel", name := "chosen", desc := "(III)I" } : MethodName) ∈ hh_ws := hh_in (List.mem_of_getElem? (i := 1333) (by decide +kernel)) rfl
theorem wl_1225 : Cond.selects "HeelsInModel" ({ cls := "HeelsInModel", name := "chosen", desc := "(III)I" } : MethodName) ({ cls := "HeelsInModel", name := "chosen", desc := "(III)I" } : MethodName) ∈ hh_ws := hh_in (List.mem_of_getElem? (i := 1334) (by decide +kernel)) rfl
theorem wl_1226 : Cond.code ({ cls := "HeelsInModel", name := "chosen", desc := "(III)I" } : MethodName) prog_12_method_56_code 13 (Option.some FieldType.int) ∈ hh_ws := hh_in (List.mem_of_getElem? (i := 1335) (by decide +kernel)) rfl
theorem wl_1227 : Cond.constantLong "HeelsInModel" 279 (Int64.ofInt (2000)) ∈ hh_ws := hh_in (List.mem_of_getElem? (i := 1336) (by decide +kernel)) rfl
theorem wl_1228 : Cond.constantLong "HeelsInModel" 281 (Int64.ofInt (16)) ∈ hh_ws := hh_in (List.mem_of_getElem? (i := 1337) (by decide +kernel)) rfl
theorem wl_1230 : Cond.instanceMethod ({ cls := "HeelsInModel", name := "game", desc := "(IIII)I" } : MethodName) ∈ hh_ws := hh_in (List.mem_of_getElem? (i := 1339) (by decide +kernel)) rfl
theorem wl_1231 : Cond.selects "HeelsInModel" ({ cls := "HeelsInModel", name := "game", desc := "(IIII)I" } : MethodName) ({ cls := "HeelsInModel", name := "game", desc := "(IIII)I" } : MethodName) ∈ hh_ws := hh_in (List.mem_of_getElem? (i := 1340) (by decide +kernel)) rfl
theorem wl_1232 : Cond.code ({ cls := "HeelsInModel", name := "game", desc := "(IIII)I" } : MethodName) prog_12_method_62_code 8 (Option.some FieldType.int) ∈ hh_ws := hh_in (List.mem_of_getElem? (i := 1341) (by decide +kernel)) rfl
theorem wl_1233 : Cond.constantLong "HeelsInModel" 298 (Int64.ofInt (9)) ∈ hh_ws := hh_in (List.mem_of_getElem? (i := 1342) (by decide +kernel)) rfl
theorem wl_1234 : Cond.methodLink "HeelsInModel" 300 ({ cls := "HeelsInModel", name := "bestFor", desc := "(II)I" } : MethodName) ∈ hh_ws := hh_in (List.mem_of_getElem? (i := 1343) (by decide +kernel)) rfl
theorem wl_1236 : Cond.instanceMethod ({ cls := "HeelsInModel", name := "bestFor", desc := "(II)I" } : MethodName) ∈ hh_ws := hh_in (List.mem_of_getElem? (i := 1345) (by decide +kernel)) rfl
theorem wl_1237 : Cond.code ({ cls := "HeelsInModel", name := "bestFor", desc := "(II)I" } : MethodName) prog_12_method_61_code 6 (Option.some FieldType.int) ∈ hh_ws := hh_in (List.mem_of_getElem? (i := 1346) (by decide +kernel)) rfl
theorem wl_1238 : Cond.methodLink "HeelsInModel" 283 ({ cls := "HeelsInModel", name := "can", desc := "(II)Z" } : MethodName) ∈ hh_ws := hh_in (List.mem_of_getElem? (i := 1347) (by decide +kernel)) rfl
theorem wl_1239 : Cond.static ({ cls := "HeelsInModel", name := "can", desc := "(II)Z" } : MethodName) ∈ hh_ws := hh_in (List.mem_of_getElem? (i := 1348) (by decide +kernel)) rfl
theorem wl_1240 : Cond.code ({ cls := "HeelsInModel", name := "can", desc := "(II)Z" } : MethodName) prog_12_method_57_code 2 (Option.some FieldType.boolean) ∈ hh_ws := hh_in (List.mem_of_getElem? (i := 1349) (by decide +kernel)) rfl
theorem wl_1241 : Cond.methodLink "HeelsInModel" 295 ({ cls := "HeelsInModel", name := "knownFor", desc := "(III)I" } : MethodName) ∈ hh_ws := hh_in (List.mem_of_getElem? (i := 1350) (by decide +kernel)) rfl
theorem wl_1243 : Cond.instanceMethod ({ cls := "HeelsInModel", name := "knownFor", desc := "(III)I" } : MethodName) ∈ hh_ws := hh_in (List.mem_of_getElem? (i := 1352) (by decide +kernel)) rfl
theorem wl_1244 : Cond.code ({ cls := "HeelsInModel", name := "knownFor", desc := "(III)I" } : MethodName) prog_12_method_60_code 8 (Option.some FieldType.int) ∈ hh_ws := hh_in (List.mem_of_getElem? (i := 1353) (by decide +kernel)) rfl
theorem wl_1245 : Cond.methodLink "HeelsInModel" 286 ({ cls := "HeelsInModel", name := "gain", desc := "(II)I" } : MethodName) ∈ hh_ws := hh_in (List.mem_of_getElem? (i := 1354) (by decide +kernel)) rfl
theorem wl_1246 : Cond.static ({ cls := "HeelsInModel", name := "gain", desc := "(II)I" } : MethodName) ∈ hh_ws := hh_in (List.mem_of_getElem? (i := 1355) (by decide +kernel)) rfl
theorem wl_1247 : Cond.code ({ cls := "HeelsInModel", name := "gain", desc := "(II)I" } : MethodName) prog_12_method_59_code 2 (Option.some FieldType.int) ∈ hh_ws := hh_in (List.mem_of_getElem? (i := 1356) (by decide +kernel)) rfl
theorem wl_1248 : Cond.methodLink "HeelsInModel" 289 ({ cls := "HeelsInModel", name := "breathed", desc := "(II)I" } : MethodName) ∈ hh_ws := hh_in (List.mem_of_getElem? (i := 1357) (by decide +kernel)) rfl
theorem wl_1249 : Cond.static ({ cls := "HeelsInModel", name := "breathed", desc := "(II)I" } : MethodName) ∈ hh_ws := hh_in (List.mem_of_getElem? (i := 1358) (by decide +kernel)) rfl
theorem wl_1250 : Cond.code ({ cls := "HeelsInModel", name := "breathed", desc := "(II)I" } : MethodName) prog_12_method_58_code 2 (Option.some FieldType.int) ∈ hh_ws := hh_in (List.mem_of_getElem? (i := 1359) (by decide +kernel)) rfl
theorem wl_1252 : Cond.instanceMethod ({ cls := "HeelsInModel", name := "left", desc := "(IIIIII)I" } : MethodName) ∈ hh_ws := hh_in (List.mem_of_getElem? (i := 1361) (by decide +kernel)) rfl
theorem wl_1253 : Cond.selects "HeelsInModel" ({ cls := "HeelsInModel", name := "left", desc := "(IIIIII)I" } : MethodName) ({ cls := "HeelsInModel", name := "left", desc := "(IIIIII)I" } : MethodName) ∈ hh_ws := hh_in (List.mem_of_getElem? (i := 1362) (by decide +kernel)) rfl
theorem wl_1254 : Cond.code ({ cls := "HeelsInModel", name := "left", desc := "(IIIIII)I" } : MethodName) prog_12_method_63_code 14 (Option.some FieldType.int) ∈ hh_ws := hh_in (List.mem_of_getElem? (i := 1363) (by decide +kernel)) rfl
theorem wl_1255 : Cond.constantLong "HeelsInModel" 303 (Int64.ofInt (999)) ∈ hh_ws := hh_in (List.mem_of_getElem? (i := 1364) (by decide +kernel)) rfl
theorem wl_1256 : Cond.constantLong "HeelsInModel" 305 (Int64.ofInt (1999)) ∈ hh_ws := hh_in (List.mem_of_getElem? (i := 1365) (by decide +kernel)) rfl
theorem wl_1258 : Cond.instanceMethod ({ cls := "HeelsInModel", name := "read", desc := "(I)I" } : MethodName) ∈ hh_ws := hh_in (List.mem_of_getElem? (i := 1367) (by decide +kernel)) rfl
theorem wl_1259 : Cond.selects "HeelsInModel" ({ cls := "HeelsInModel", name := "read", desc := "(I)I" } : MethodName) ({ cls := "HeelsInModel", name := "read", desc := "(I)I" } : MethodName) ∈ hh_ws := hh_in (List.mem_of_getElem? (i := 1368) (by decide +kernel)) rfl
theorem wl_1260 : Cond.code ({ cls := "HeelsInModel", name := "read", desc := "(I)I" } : MethodName) prog_12_method_64_code 5 (Option.some FieldType.int) ∈ hh_ws := hh_in (List.mem_of_getElem? (i := 1369) (by decide +kernel)) rfl
theorem wl_1262 : Cond.instanceMethod ({ cls := "HeelsInModel", name := "image", desc := "(I)I" } : MethodName) ∈ hh_ws := hh_in (List.mem_of_getElem? (i := 1371) (by decide +kernel)) rfl
theorem wl_1263 : Cond.selects "HeelsInModel" ({ cls := "HeelsInModel", name := "image", desc := "(I)I" } : MethodName) ({ cls := "HeelsInModel", name := "image", desc := "(I)I" } : MethodName) ∈ hh_ws := hh_in (List.mem_of_getElem? (i := 1372) (by decide +kernel)) rfl
theorem wl_1264 : Cond.code ({ cls := "HeelsInModel", name := "image", desc := "(I)I" } : MethodName) prog_12_method_65_code 3 (Option.some FieldType.int) ∈ hh_ws := hh_in (List.mem_of_getElem? (i := 1373) (by decide +kernel)) rfl
theorem wl_1266 : Cond.instanceMethod ({ cls := "HeelsInModel", name := "restore", desc := "(I)I" } : MethodName) ∈ hh_ws := hh_in (List.mem_of_getElem? (i := 1375) (by decide +kernel)) rfl
theorem wl_1267 : Cond.selects "HeelsInModel" ({ cls := "HeelsInModel", name := "restore", desc := "(I)I" } : MethodName) ({ cls := "HeelsInModel", name := "restore", desc := "(I)I" } : MethodName) ∈ hh_ws := hh_in (List.mem_of_getElem? (i := 1376) (by decide +kernel)) rfl
theorem wl_1268 : Cond.code ({ cls := "HeelsInModel", name := "restore", desc := "(I)I" } : MethodName) prog_12_method_66_code 3 (Option.some FieldType.int) ∈ hh_ws := hh_in (List.mem_of_getElem? (i := 1377) (by decide +kernel)) rfl
theorem wl_1270 : Cond.instanceMethod ({ cls := "HeelsInModel", name := "kind", desc := "(II)I" } : MethodName) ∈ hh_ws := hh_in (List.mem_of_getElem? (i := 1379) (by decide +kernel)) rfl
theorem wl_1271 : Cond.selects "HeelsInModel" ({ cls := "HeelsInModel", name := "kind", desc := "(II)I" } : MethodName) ({ cls := "HeelsInModel", name := "kind", desc := "(II)I" } : MethodName) ∈ hh_ws := hh_in (List.mem_of_getElem? (i := 1380) (by decide +kernel)) rfl
theorem wl_1272 : Cond.code ({ cls := "HeelsInModel", name := "kind", desc := "(II)I" } : MethodName) prog_12_method_70_code 3 (Option.some FieldType.int) ∈ hh_ws := hh_in (List.mem_of_getElem? (i := 1381) (by decide +kernel)) rfl
theorem wl_1273 : Cond.methodLink "HeelsInModel" 307 ({ cls := "HeelsInModel", name := "isIdle", desc := "()Z" } : MethodName) ∈ hh_ws := hh_in (List.mem_of_getElem? (i := 1382) (by decide +kernel)) rfl
theorem wl_1275 : Cond.instanceMethod ({ cls := "HeelsInModel", name := "isIdle", desc := "()Z" } : MethodName) ∈ hh_ws := hh_in (List.mem_of_getElem? (i := 1384) (by decide +kernel)) rfl
theorem wl_1276 : Cond.code ({ cls := "HeelsInModel", name := "isIdle", desc := "()Z" } : MethodName) prog_12_method_69_code 1 (Option.some FieldType.boolean) ∈ hh_ws := hh_in (List.mem_of_getElem? (i := 1385) (by decide +kernel)) rfl
theorem wl_1277 : Cond.methodLink "HeelsInModel" 311 ({ cls := "HeelsInModel", name := "kindOf", desc := "(II)I" } : MethodName) ∈ hh_ws := hh_in (List.mem_of_getElem? (i := 1386) (by decide +kernel)) rfl
theorem wl_1279 : Cond.instanceMethod ({ cls := "HeelsInModel", name := "kindOf", desc := "(II)I" } : MethodName) ∈ hh_ws := hh_in (List.mem_of_getElem? (i := 1388) (by decide +kernel)) rfl
theorem wl_1280 : Cond.code ({ cls := "HeelsInModel", name := "kindOf", desc := "(II)I" } : MethodName) prog_12_method_67_code 3 (Option.some FieldType.int) ∈ hh_ws := hh_in (List.mem_of_getElem? (i := 1389) (by decide +kernel)) rfl
theorem wl_1282 : Cond.instanceMethod ({ cls := "HeelsInModel", name := "as", desc := "(III)I" } : MethodName) ∈ hh_ws := hh_in (List.mem_of_getElem? (i := 1391) (by decide +kernel)) rfl
theorem wl_1283 : Cond.selects "HeelsInModel" ({ cls := "HeelsInModel", name := "as", desc := "(III)I" } : MethodName) ({ cls := "HeelsInModel", name := "as", desc := "(III)I" } : MethodName) ∈ hh_ws := hh_in (List.mem_of_getElem? (i := 1392) (by decide +kernel)) rfl
theorem wl_1284 : Cond.code ({ cls := "HeelsInModel", name := "as", desc := "(III)I" } : MethodName) prog_12_method_71_code 4 (Option.some FieldType.int) ∈ hh_ws := hh_in (List.mem_of_getElem? (i := 1393) (by decide +kernel)) rfl
theorem wl_1285 : Cond.constantLong "HeelsInModel" 314 (Int64.ofInt (5)) ∈ hh_ws := hh_in (List.mem_of_getElem? (i := 1394) (by decide +kernel)) rfl
theorem wl_1286 : Cond.methodLink "HeelsInModel" 316 ({ cls := "HeelsInModel", name := "isOf", desc := "(II)Z" } : MethodName) ∈ hh_ws := hh_in (List.mem_of_getElem? (i := 1395) (by decide +kernel)) rfl
theorem wl_1287 : Cond.static ({ cls := "HeelsInModel", name := "isOf", desc := "(II)Z" } : MethodName) ∈ hh_ws := hh_in (List.mem_of_getElem? (i := 1396) (by decide +kernel)) rfl
theorem wl_1288 : Cond.code ({ cls := "HeelsInModel", name := "isOf", desc := "(II)Z" } : MethodName) prog_12_method_68_code 2 (Option.some FieldType.boolean) ∈ hh_ws := hh_in (List.mem_of_getElem? (i := 1397) (by decide +kernel)) rfl
theorem wl_1290 : Cond.instanceMethod ({ cls := "HeelsInModel", name := "ask", desc := "(III)I" } : MethodName) ∈ hh_ws := hh_in (List.mem_of_getElem? (i := 1399) (by decide +kernel)) rfl
theorem wl_1291 : Cond.selects "HeelsInModel" ({ cls := "HeelsInModel", name := "ask", desc := "(III)I" } : MethodName) ({ cls := "HeelsInModel", name := "ask", desc := "(III)I" } : MethodName) ∈ hh_ws := hh_in (List.mem_of_getElem? (i := 1400) (by decide +kernel)) rfl
theorem wl_1292 : Cond.code ({ cls := "HeelsInModel", name := "ask", desc := "(III)I" } : MethodName) prog_12_method_80_code 5 (Option.some FieldType.int) ∈ hh_ws := hh_in (List.mem_of_getElem? (i := 1401) (by decide +kernel)) rfl
theorem wl_1293 : Cond.methodLink "HeelsInModel" 340 ({ cls := "HeelsInModel", name := "ownMark", desc := "(III)I" } : MethodName) ∈ hh_ws := hh_in (List.mem_of_getElem? (i := 1402) (by decide +kernel)) rfl
theorem wl_1295 : Cond.instanceMethod ({ cls := "HeelsInModel", name := "ownMark", desc := "(III)I" } : MethodName) ∈ hh_ws := hh_in (List.mem_of_getElem? (i := 1404) (by decide +kernel)) rfl
theorem wl_1296 : Cond.code ({ cls := "HeelsInModel", name := "ownMark", desc := "(III)I" } : MethodName) prog_12_method_79_code 4 (Option.some FieldType.int) ∈ hh_ws := hh_in (List.mem_of_getElem? (i := 1405) (by decide +kernel)) rfl
theorem wl_1297 : Cond.methodLink "HeelsInModel" 331 ({ cls := "HeelsInModel", name := "heavedMark", desc := "(III)I" } : MethodName) ∈ hh_ws := hh_in (List.mem_of_getElem? (i := 1406) (by decide +kernel)) rfl
theorem wl_1299 : Cond.instanceMethod ({ cls := "HeelsInModel", name := "heavedMark", desc := "(III)I" } : MethodName) ∈ hh_ws := hh_in (List.mem_of_getElem? (i := 1408) (by decide +kernel)) rfl
theorem wl_1300 : Cond.code ({ cls := "HeelsInModel", name := "heavedMark", desc := "(III)I" } : MethodName) prog_12_method_77_code 4 (Option.some FieldType.int) ∈ hh_ws := hh_in (List.mem_of_getElem? (i := 1409) (by decide +kernel)) rfl
theorem wl_1301 : Cond.methodLink "HeelsInModel" 322 ({ cls := "HeelsInModel", name := "began", desc := "(I)V" } : MethodName) ∈ hh_ws := hh_in (List.mem_of_getElem? (i := 1410) (by decide +kernel)) rfl
theorem wl_1303 : Cond.instanceMethod ({ cls := "HeelsInModel", name := "began", desc := "(I)V" } : MethodName) ∈ hh_ws := hh_in (List.mem_of_getElem? (i := 1412) (by decide +kernel)) rfl
theorem wl_1304 : Cond.code ({ cls := "HeelsInModel", name := "began", desc := "(I)V" } : MethodName) prog_12_method_72_code 2 (Option.none : Option FieldType) ∈ hh_ws := hh_in (List.mem_of_getElem? (i := 1413) (by decide +kernel)) rfl
theorem wl_1305 : Cond.methodLink "HeelsInModel" 334 ({ cls := "HeelsInModel", name := "spentSize", desc := "(II)I" } : MethodName) ∈ hh_ws := hh_in (List.mem_of_getElem? (i := 1414) (by decide +kernel)) rfl
theorem wl_1307 : Cond.instanceMethod ({ cls := "HeelsInModel", name := "spentSize", desc := "(II)I" } : MethodName) ∈ hh_ws := hh_in (List.mem_of_getElem? (i := 1416) (by decide +kernel)) rfl
theorem wl_1308 : Cond.code ({ cls := "HeelsInModel", name := "spentSize", desc := "(II)I" } : MethodName) prog_12_method_76_code 3 (Option.some FieldType.int) ∈ hh_ws := hh_in (List.mem_of_getElem? (i := 1417) (by decide +kernel)) rfl
theorem wl_1309 : Cond.methodLink "HeelsInModel" 325 ({ cls := "HeelsInModel", name := "plainSize", desc := "(II)I" } : MethodName) ∈ hh_ws := hh_in (List.mem_of_getElem? (i := 1418) (by decide +kernel)) rfl
theorem wl_1311 : Cond.instanceMethod ({ cls := "HeelsInModel", name := "plainSize", desc := "(II)I" } : MethodName) ∈ hh_ws := hh_in (List.mem_of_getElem? (i := 1420) (by decide +kernel)) rfl
theorem wl_1312 : Cond.code ({ cls := "HeelsInModel", name := "plainSize", desc := "(II)I" } : MethodName) prog_12_method_73_code 3 (Option.some FieldType.int) ∈ hh_ws := hh_in (List.mem_of_getElem? (i := 1421) (by decide +kernel)) rfl
theorem wl_1313 : Cond.methodLink "HeelsInModel" 337 ({ cls := "HeelsInModel", name := "restedSize", desc := "(II)I" } : MethodName) ∈ hh_ws := hh_in (List.mem_of_getElem? (i := 1422) (by decide +kernel)) rfl
theorem wl_1315 : Cond.instanceMethod ({ cls := "HeelsInModel", name := "restedSize", desc := "(II)I" } : MethodName) ∈ hh_ws := hh_in (List.mem_of_getElem? (i := 1424) (by decide +kernel)) rfl
theorem wl_1316 : Cond.code ({ cls := "HeelsInModel", name := "restedSize", desc := "(II)I" } : MethodName) prog_12_method_75_code 3 (Option.some FieldType.int) ∈ hh_ws := hh_in (List.mem_of_getElem? (i := 1425) (by decide +kernel)) rfl
theorem wl_1317 : Cond.methodLink "HeelsInModel" 328 ({ cls := "HeelsInModel", name := "heldSize", desc := "(II)I" } : MethodName) ∈ hh_ws := hh_in (List.mem_of_getElem? (i := 1426) (by decide +kernel)) rfl
theorem wl_1319 : Cond.instanceMethod ({ cls := "HeelsInModel", name := "heldSize", desc := "(II)I" } : MethodName) ∈ hh_ws := hh_in (List.mem_of_getElem? (i := 1428) (by decide +kernel)) rfl
theorem wl_1320 : Cond.code ({ cls := "HeelsInModel", name := "heldSize", desc := "(II)I" } : MethodName) prog_12_method_74_code 3 (Option.some FieldType.int) ∈ hh_ws := hh_in (List.mem_of_getElem? (i := 1429) (by decide +kernel)) rfl
theorem wl_1321 : Cond.methodLink "HeelsInModel" 343 ({ cls := "HeelsInModel", name := "heavedSize", desc := "(III)I" } : MethodName) ∈ hh_ws := hh_in (List.mem_of_getElem? (i := 1430) (by decide +kernel)) rfl
theorem wl_1323 : Cond.instanceMethod ({ cls := "HeelsInModel", name := "heavedSize", desc := "(III)I" } : MethodName) ∈ hh_ws := hh_in (List.mem_of_getElem? (i := 1432) (by decide +kernel)) rfl
theorem wl_1324 : Cond.code ({ cls := "HeelsInModel", name := "heavedSize", desc := "(III)I" } : MethodName) prog_12_method_78_code 5 (Option.some FieldType.int) ∈ hh_ws := hh_in (List.mem_of_getElem? (i := 1433) (by decide +kernel)) rfl
theorem wl_1326 : Cond.instanceMethod ({ cls := "HeelsInModel", name := "trace", desc := "(I)I" } : MethodName) ∈ hh_ws := hh_in (List.mem_of_getElem? (i := 1435) (by decide +kernel)) rfl
theorem wl_1327 : Cond.selects "HeelsInModel" ({ cls := "HeelsInModel", name := "trace", desc := "(I)I" } : MethodName) ({ cls := "HeelsInModel", name := "trace", desc := "(I)I" } : MethodName) ∈ hh_ws := hh_in (List.mem_of_getElem? (i := 1436) (by decide +kernel)) rfl
theorem wl_1328 : Cond.code ({ cls := "HeelsInModel", name := "trace", desc := "(I)I" } : MethodName) prog_12_method_81_code 2 (Option.some FieldType.int) ∈ hh_ws := hh_in (List.mem_of_getElem? (i := 1437) (by decide +kernel)) rfl
theorem wl_1330 : Cond.instanceMethod ({ cls := "HeelsInModel", name := "count", desc := "(I)I" } : MethodName) ∈ hh_ws := hh_in (List.mem_of_getElem? (i := 1439) (by decide +kernel)) rfl
theorem wl_1331 : Cond.selects "HeelsInModel" ({ cls := "HeelsInModel", name := "count", desc := "(I)I" } : MethodName) ({ cls := "HeelsInModel", name := "count", desc := "(I)I" } : MethodName) ∈ hh_ws := hh_in (List.mem_of_getElem? (i := 1440) (by decide +kernel)) rfl
theorem wl_1332 : Cond.code ({ cls := "HeelsInModel", name := "count", desc := "(I)I" } : MethodName) prog_12_method_82_code 4 (Option.some FieldType.int) ∈ hh_ws := hh_in (List.mem_of_getElem? (i := 1441) (by decide +kernel)) rfl
theorem wl_1334 : Cond.instanceMethod ({ cls := "HeelsInModel", name := "status", desc := "()I" } : MethodName) ∈ hh_ws := hh_in (List.mem_of_getElem? (i := 1443) (by decide +kernel)) rfl
theorem wl_1335 : Cond.selects "HeelsInModel" ({ cls := "HeelsInModel", name := "status", desc := "()I" } : MethodName) ({ cls := "HeelsInModel", name := "status", desc := "()I" } : MethodName) ∈ hh_ws := hh_in (List.mem_of_getElem? (i := 1444) (by decide +kernel)) rfl
theorem wl_1336 : Cond.code ({ cls := "HeelsInModel", name := "status", desc := "()I" } : MethodName) prog_12_method_83_code 1 (Option.some FieldType.int) ∈ hh_ws := hh_in (List.mem_of_getElem? (i := 1445) (by decide +kernel)) rfl
theorem wl_1338 : Cond.fieldLink "java/lang/String" 9 "java/lang/String" "value" "[B" ∈ hh_ws := hh_in (List.mem_of_getElem? (i := 1447) (by decide +kernel)) rfl
theorem wl_1339 : Cond.fieldLink "java/lang/String" 15 "java/lang/String" "coder" "B" ∈ hh_ws := hh_in (List.mem_of_getElem? (i := 1448) (by decide +kernel)) rfl
/-! the methods -/
def m_J0_charAt_5068e : hm_M := (yJ0_charAt_5068e, cJ0_charAt_5068e, 2, (some FieldType.char))
theorem mo_J0_charAt_5068e : hm_OV m_J0_charAt_5068e 1 := ⟨⟨wl_432, wl_433, wl_13, wl_434⟩, (by decide +kernel), by decide⟩
def m_J0_checkIndex_df160 : hm_M := (yJ0_checkIndex_df160, cJ0_checkIndex_df160, 2, none)
theorem mo_J0_checkIndex_df160 : hm_OS m_J0_checkIndex_df160 2 := ⟨⟨wl_443, wl_13, wl_444⟩, (by decide +kernel), by decide⟩
def m_J0_coder_7d493 : hm_M := (yJ0_coder_7d493, cJ0_coder_7d493, 1, (some FieldType.byte))
theorem mo_J0_coder_7d493 : hm_OV m_J0_coder_7d493 0 := ⟨⟨wl_426, wl_427, wl_13, wl_428⟩, (by decide +kernel), by decide⟩
def m_J0_isLatin1_aae02 : hm_M := (yJ0_isLatin1_aae02, cJ0_isLatin1_aae02, 1, (some FieldType.boolean))
theorem mo_J0_isLatin1_aae02 : hm_OV m_J0_isLatin1_aae02 0 := ⟨⟨wl_436, wl_437, wl_13, wl_438⟩, (by decide +kernel), by decide⟩
def m_J0_length_8abf5 : hm_M := (yJ0_length_8abf5, cJ0_length_8abf5, 1, (some FieldType.int))
theorem mo_J0_length_8abf5 : hm_OV m_J0_length_8abf5 0 := ⟨⟨wl_422, wl_423, wl_13, wl_424⟩, (by decide +kernel), by decide⟩
def m_J1_charAt_3b067 : hm_M := (yJ1_charAt_3b067, cJ1_charAt_3b067, 2, (some FieldType.char))
theorem mo_J1_charAt_3b067 : hm_OS m_J1_charAt_3b067 2 := ⟨⟨wl_440, wl_14, wl_441⟩, (by decide +kernel), by decide⟩
def m_J3_checkIndex_8e157 : hm_M := (yJ3_checkIndex_8e157, cJ3_checkIndex_8e157, 3, (some FieldType.int))
theorem mo_J3_checkIndex_8e157 : hm_OS m_J3_checkIndex_8e157 3 := ⟨⟨wl_448, wl_15, wl_449⟩, (by decide +kernel), by decide⟩
def m_J6_bitCount_0f7a4 : hm_M := (yJ6_bitCount_0f7a4, cJ6_bitCount_0f7a4, 1, (some FieldType.int))
theorem mo_J6_bitCount_0f7a4 : hm_OS m_J6_bitCount_0f7a4 1 := ⟨⟨wl_693, wl_18, wl_694⟩, (by decide +kernel), by decide⟩
def m_J6_compare_7cf53 : hm_M := (yJ6_compare_7cf53, cJ6_compare_7cf53, 2, (some FieldType.int))
theorem mo_J6_compare_7cf53 : hm_OS m_J6_compare_7cf53 2 := ⟨⟨wl_658, wl_18, wl_659⟩, (by decide +kernel), by decide⟩
def m_X0_choose : hm_M := (yX0_choose, cX0_choose, 7, none)
theorem mo_X0_choose : hm_OV m_X0_choose 3 := ⟨⟨wl_711, wp_47, wl_7, wl_712⟩, (by decide +kernel), by decide⟩
def m_X0_tryBelow : hm_M := (yX0_tryBelow, cX0_tryBelow, 7, none)
theorem mo_X0_tryBelow : hm_OS m_X0_tryBelow 6 := ⟨⟨wl_714, wl_7, wl_715⟩, (by decide +kernel), by decide⟩
def m_X1_begins : hm_M := (yX1_begins, cX1_begins, 2, none)
theorem mo_X1_begins : hm_OV m_X1_begins 1 := ⟨⟨wl_830, wp_61, wl_9, wl_831⟩, (by decide +kernel), by decide⟩
def m_X1_isOne : hm_M := (yX1_isOne, cX1_isOne, 2, (some FieldType.boolean))
theorem mo_X1_isOne : hm_OS m_X1_isOne 2 := ⟨⟨wl_814, wl_9, wl_815⟩, (by decide +kernel), by decide⟩
def m_X1_mark : hm_M := (yX1_mark, cX1_mark, 1, (some FieldType.int))
theorem mo_X1_mark : hm_OV m_X1_mark 0 := ⟨⟨wl_862, wp_69, wl_9, wl_863⟩, (by decide +kernel), by decide⟩
def m_X1_mark20 : hm_M := (yX1_mark20, cX1_mark20, 1, (some FieldType.int))
theorem mo_X1_mark20 : hm_OV m_X1_mark20 0 := ⟨⟨wl_854, wp_67, wl_9, wl_855⟩, (by decide +kernel), by decide⟩
def m_X1_mark21 : hm_M := (yX1_mark21, cX1_mark21, 1, (some FieldType.int))
theorem mo_X1_mark21 : hm_OV m_X1_mark21 0 := ⟨⟨wl_850, wp_66, wl_9, wl_851⟩, (by decide +kernel), by decide⟩
def m_X1_mark22 : hm_M := (yX1_mark22, cX1_mark22, 1, (some FieldType.int))
theorem mo_X1_mark22 : hm_OV m_X1_mark22 0 := ⟨⟨wl_846, wp_65, wl_9, wl_847⟩, (by decide +kernel), by decide⟩
def m_X1_mark23 : hm_M := (yX1_mark23, cX1_mark23, 1, (some FieldType.int))
theorem mo_X1_mark23 : hm_OV m_X1_mark23 0 := ⟨⟨wl_866, wp_70, wl_9, wl_867⟩, (by decide +kernel), by decide⟩
def m_X1_mark24 : hm_M := (yX1_mark24, cX1_mark24, 1, (some FieldType.int))
theorem mo_X1_mark24 : hm_OV m_X1_mark24 0 := ⟨⟨wl_870, wp_71, wl_9, wl_871⟩, (by decide +kernel), by decide⟩
def m_X1_size : hm_M := (yX1_size, cX1_size, 1, (some FieldType.int))
theorem mo_X1_size : hm_OV m_X1_size 0 := ⟨⟨wl_822, wp_59, wl_9, wl_823⟩, (by decide +kernel), by decide⟩
def m_X1_size10 : hm_M := (yX1_size10, cX1_size10, 1, (some FieldType.int))
theorem mo_X1_size10 : hm_OV m_X1_size10 0 := ⟨⟨wl_834, wp_62, wl_9, wl_835⟩, (by decide +kernel), by decide⟩
def m_X1_size11 : hm_M := (yX1_size11, cX1_size11, 1, (some FieldType.int))
theorem mo_X1_size11 : hm_OV m_X1_size11 0 := ⟨⟨wl_826, wp_60, wl_9, wl_827⟩, (by decide +kernel), by decide⟩
def m_X1_size12 : hm_M := (yX1_size12, cX1_size12, 1, (some FieldType.int))
theorem mo_X1_size12 : hm_OV m_X1_size12 0 := ⟨⟨wl_838, wp_63, wl_9, wl_839⟩, (by decide +kernel), by decide⟩
def m_X1_size13 : hm_M := (yX1_size13, cX1_size13, 2, (some FieldType.int))
theorem mo_X1_size13 : hm_OV m_X1_size13 0 := ⟨⟨wl_842, wp_64, wl_9, wl_843⟩, (by decide +kernel), by decide⟩
def m_X1_size14 : hm_M := (yX1_size14, cX1_size14, 1, (some FieldType.int))
theorem mo_X1_size14 : hm_OV m_X1_size14 0 := ⟨⟨wl_858, wp_68, wl_9, wl_859⟩, (by decide +kernel), by decide⟩
def m_X10_as : hm_M := (yX10_as, cX10_as, 4, (some FieldType.int))
theorem mo_X10_as : hm_OV m_X10_as 3 := ⟨⟨wl_1282, wl_1283, wl_11, wl_1284⟩, (by decide +kernel), by decide⟩
def m_X10_ask : hm_M := (yX10_ask, cX10_ask, 5, (some FieldType.int))
theorem mo_X10_ask : hm_OV m_X10_ask 3 := ⟨⟨wl_1290, wl_1291, wl_11, wl_1292⟩, (by decide +kernel), by decide⟩
def m_X10_bad : hm_M := (yX10_bad, cX10_bad, 2, none)
theorem mo_X10_bad : hm_OV m_X10_bad 1 := ⟨⟨wl_1068, wp_80, wl_11, wl_1069⟩, (by decide +kernel), by decide⟩
def m_X10_began : hm_M := (yX10_began, cX10_began, 2, none)
theorem mo_X10_began : hm_OV m_X10_began 1 := ⟨⟨wl_1303, wp_103, wl_11, wl_1304⟩, (by decide +kernel), by decide⟩
def m_X10_begin : hm_M := (yX10_begin, cX10_begin, 2, (some FieldType.int))
theorem mo_X10_begin : hm_OV m_X10_begin 1 := ⟨⟨wl_1137, wl_1138, wl_11, wl_1139⟩, (by decide +kernel), by decide⟩
def m_X10_bestFor : hm_M := (yX10_bestFor, cX10_bestFor, 6, (some FieldType.int))
theorem mo_X10_bestFor : hm_OV m_X10_bestFor 2 := ⟨⟨wl_1236, wp_97, wl_11, wl_1237⟩, (by decide +kernel), by decide⟩
def m_X10_bits : hm_M := (yX10_bits, cX10_bits, 3, (some FieldType.int))
theorem mo_X10_bits : hm_OS m_X10_bits 1 := ⟨⟨wl_1217, wl_11, wl_1218⟩, (by decide +kernel), by decide⟩
def m_X10_breathOf : hm_M := (yX10_breathOf, cX10_breathOf, 4, (some FieldType.int))
theorem mo_X10_breathOf : hm_OV m_X10_breathOf 1 := ⟨⟨wl_1160, wp_91, wl_11, wl_1161⟩, (by decide +kernel), by decide⟩
def m_X10_breathed : hm_M := (yX10_breathed, cX10_breathed, 2, (some FieldType.int))
theorem mo_X10_breathed : hm_OS m_X10_breathed 2 := ⟨⟨wl_1249, wl_11, wl_1250⟩, (by decide +kernel), by decide⟩
def m_X10_byteAt : hm_M := (yX10_byteAt, cX10_byteAt, 2, (some FieldType.int))
theorem mo_X10_byteAt : hm_OV m_X10_byteAt 1 := ⟨⟨wl_1039, wp_75, wl_11, wl_1040⟩, (by decide +kernel), by decide⟩
def m_X10_can : hm_M := (yX10_can, cX10_can, 2, (some FieldType.boolean))
theorem mo_X10_can : hm_OS m_X10_can 2 := ⟨⟨wl_1239, wl_11, wl_1240⟩, (by decide +kernel), by decide⟩
def m_X10_chosen : hm_M := (yX10_chosen, cX10_chosen, 13, (some FieldType.int))
theorem mo_X10_chosen : hm_OV m_X10_chosen 3 := ⟨⟨wl_1224, wl_1225, wl_11, wl_1226⟩, (by decide +kernel), by decide⟩
def m_X10_copy : hm_M := (yX10_copy, cX10_copy, 9, (some FieldType.int))
theorem mo_X10_copy : hm_OV m_X10_copy 5 := ⟨⟨wl_1015, wl_1016, wl_11, wl_1017⟩, (by decide +kernel), by decide⟩
def m_X10_count : hm_M := (yX10_count, cX10_count, 4, (some FieldType.int))
theorem mo_X10_count : hm_OV m_X10_count 1 := ⟨⟨wl_1330, wl_1331, wl_11, wl_1332⟩, (by decide +kernel), by decide⟩
def m_X10_doOf : hm_M := (yX10_doOf, cX10_doOf, 2, (some FieldType.int))
theorem mo_X10_doOf : hm_OS m_X10_doOf 1 := ⟨⟨wl_1108, wl_11, wl_1109⟩, (by decide +kernel), by decide⟩
def m_X10_does : hm_M := (yX10_does, cX10_does, 10, (some FieldType.int))
theorem mo_X10_does : hm_OV m_X10_does 4 := ⟨⟨wl_1168, wp_93, wl_11, wl_1169⟩, (by decide +kernel), by decide⟩
def m_X10_doing : hm_M := (yX10_doing, cX10_doing, 4, (some FieldType.int))
theorem mo_X10_doing : hm_OV m_X10_doing 3 := ⟨⟨wl_1195, wl_1196, wl_11, wl_1197⟩, (by decide +kernel), by decide⟩
def m_X10_drop : hm_M := (yX10_drop, cX10_drop, 2, (some FieldType.int))
theorem mo_X10_drop : hm_OV m_X10_drop 1 := ⟨⟨wl_1019, wl_1020, wl_11, wl_1021⟩, (by decide +kernel), by decide⟩
def m_X10_endOf : hm_M := (yX10_endOf, cX10_endOf, 2, (some FieldType.int))
theorem mo_X10_endOf : hm_OV m_X10_endOf 1 := ⟨⟨wl_1175, wp_94, wl_11, wl_1176⟩, (by decide +kernel), by decide⟩
def m_X10_fault : hm_M := (yX10_fault, cX10_fault, 1, (some FieldType.int))
theorem mo_X10_fault : hm_OV m_X10_fault 0 := ⟨⟨wl_1117, wl_1118, wl_11, wl_1119⟩, (by decide +kernel), by decide⟩
def m_X10_feed : hm_M := (yX10_feed, cX10_feed, 5, (some FieldType.int))
theorem mo_X10_feed : hm_OV m_X10_feed 2 := ⟨⟨wl_1023, wl_1024, wl_11, wl_1025⟩, (by decide +kernel), by decide⟩
def m_X10_finding : hm_M := (yX10_finding, cX10_finding, 2, (some FieldType.int))
theorem mo_X10_finding : hm_OV m_X10_finding 1 := ⟨⟨wl_1007, wp_73, wl_11, wl_1008⟩, (by decide +kernel), by decide⟩
def m_X10_gain : hm_M := (yX10_gain, cX10_gain, 2, (some FieldType.int))
theorem mo_X10_gain : hm_OS m_X10_gain 2 := ⟨⟨wl_1246, wl_11, wl_1247⟩, (by decide +kernel), by decide⟩
def m_X10_game : hm_M := (yX10_game, cX10_game, 8, (some FieldType.int))
theorem mo_X10_game : hm_OV m_X10_game 4 := ⟨⟨wl_1230, wl_1231, wl_11, wl_1232⟩, (by decide +kernel), by decide⟩
def m_X10_go : hm_M := (yX10_go, cX10_go, 2, (some FieldType.int))
theorem mo_X10_go : hm_OV m_X10_go 1 := ⟨⟨wl_1146, wl_1147, wl_11, wl_1148⟩, (by decide +kernel), by decide⟩
def m_X10_goOn : hm_M := (yX10_goOn, cX10_goOn, 4, (some FieldType.int))
theorem mo_X10_goOn : hm_OV m_X10_goOn 1 := ⟨⟨wl_1152, wp_89, wl_11, wl_1153⟩, (by decide +kernel), by decide⟩
def m_X10_heavedMark : hm_M := (yX10_heavedMark, cX10_heavedMark, 4, (some FieldType.int))
theorem mo_X10_heavedMark : hm_OV m_X10_heavedMark 3 := ⟨⟨wl_1299, wp_102, wl_11, wl_1300⟩, (by decide +kernel), by decide⟩
def m_X10_heavedSize : hm_M := (yX10_heavedSize, cX10_heavedSize, 5, (some FieldType.int))
theorem mo_X10_heavedSize : hm_OV m_X10_heavedSize 3 := ⟨⟨wl_1323, wp_108, wl_11, wl_1324⟩, (by decide +kernel), by decide⟩
def m_X10_heldSize : hm_M := (yX10_heldSize, cX10_heldSize, 3, (some FieldType.int))
theorem mo_X10_heldSize : hm_OV m_X10_heldSize 2 := ⟨⟨wl_1319, wp_107, wl_11, wl_1320⟩, (by decide +kernel), by decide⟩
def m_X10_image : hm_M := (yX10_image, cX10_image, 3, (some FieldType.int))
theorem mo_X10_image : hm_OV m_X10_image 1 := ⟨⟨wl_1262, wl_1263, wl_11, wl_1264⟩, (by decide +kernel), by decide⟩
def m_X10_in : hm_M := (yX10_in, cX10_in, 6, (some FieldType.boolean))
theorem mo_X10_in : hm_OS m_X10_in 3 := ⟨⟨wl_1001, wl_11, wl_1002⟩, (by decide +kernel), by decide⟩
def m_X10_isFigure : hm_M := (yX10_isFigure, cX10_isFigure, 1, (some FieldType.boolean))
theorem mo_X10_isFigure : hm_OS m_X10_isFigure 1 := ⟨⟨wl_1046, wl_11, wl_1047⟩, (by decide +kernel), by decide⟩
def m_X10_isIdle : hm_M := (yX10_isIdle, cX10_isIdle, 1, (some FieldType.boolean))
theorem mo_X10_isIdle : hm_OV m_X10_isIdle 0 := ⟨⟨wl_1275, wp_99, wl_11, wl_1276⟩, (by decide +kernel), by decide⟩
def m_X10_isLetter : hm_M := (yX10_isLetter, cX10_isLetter, 1, (some FieldType.boolean))
theorem mo_X10_isLetter : hm_OS m_X10_isLetter 1 := ⟨⟨wl_1043, wl_11, wl_1044⟩, (by decide +kernel), by decide⟩
def m_X10_isOf : hm_M := (yX10_isOf, cX10_isOf, 2, (some FieldType.boolean))
theorem mo_X10_isOf : hm_OS m_X10_isOf 2 := ⟨⟨wl_1287, wl_11, wl_1288⟩, (by decide +kernel), by decide⟩
def m_X10_isPuller : hm_M := (yX10_isPuller, cX10_isPuller, 3, (some FieldType.boolean))
theorem mo_X10_isPuller : hm_OV m_X10_isPuller 2 := ⟨⟨wl_1126, wp_86, wl_11, wl_1127⟩, (by decide +kernel), by decide⟩
def m_X10_isSheet : hm_M := (yX10_isSheet, cX10_isSheet, 1, (some FieldType.boolean))
theorem mo_X10_isSheet : hm_OS m_X10_isSheet 1 := ⟨⟨wl_997, wl_11, wl_998⟩, (by decide +kernel), by decide⟩
def m_X10_isSide : hm_M := (yX10_isSide, cX10_isSide, 1, (some FieldType.boolean))
theorem mo_X10_isSide : hm_OS m_X10_isSide 1 := ⟨⟨wl_1129, wl_11, wl_1130⟩, (by decide +kernel), by decide⟩
def m_X10_keepTenth : hm_M := (yX10_keepTenth, cX10_keepTenth, 2, none)
theorem mo_X10_keepTenth : hm_OV m_X10_keepTenth 0 := ⟨⟨wl_1179, wp_95, wl_11, wl_1180⟩, (by decide +kernel), by decide⟩
def m_X10_kind : hm_M := (yX10_kind, cX10_kind, 3, (some FieldType.int))
theorem mo_X10_kind : hm_OV m_X10_kind 2 := ⟨⟨wl_1270, wl_1271, wl_11, wl_1272⟩, (by decide +kernel), by decide⟩
def m_X10_kindOf : hm_M := (yX10_kindOf, cX10_kindOf, 3, (some FieldType.int))
theorem mo_X10_kindOf : hm_OV m_X10_kindOf 2 := ⟨⟨wl_1279, wp_100, wl_11, wl_1280⟩, (by decide +kernel), by decide⟩
def m_X10_knownFor : hm_M := (yX10_knownFor, cX10_knownFor, 8, (some FieldType.int))
theorem mo_X10_knownFor : hm_OV m_X10_knownFor 3 := ⟨⟨wl_1243, wp_98, wl_11, wl_1244⟩, (by decide +kernel), by decide⟩
def m_X10_later : hm_M := (yX10_later, cX10_later, 3, (some FieldType.int))
theorem mo_X10_later : hm_OV m_X10_later 2 := ⟨⟨wl_1199, wl_1200, wl_11, wl_1201⟩, (by decide +kernel), by decide⟩
def m_X10_leastOf : hm_M := (yX10_leastOf, cX10_leastOf, 1, (some FieldType.int))
theorem mo_X10_leastOf : hm_OS m_X10_leastOf 1 := ⟨⟨wl_1080, wl_11, wl_1081⟩, (by decide +kernel), by decide⟩
def m_X10_left : hm_M := (yX10_left, cX10_left, 14, (some FieldType.int))
theorem mo_X10_left : hm_OV m_X10_left 6 := ⟨⟨wl_1252, wl_1253, wl_11, wl_1254⟩, (by decide +kernel), by decide⟩
def m_X10_match : hm_M := (yX10_match, cX10_match, 2, (some FieldType.int))
theorem mo_X10_match : hm_OV m_X10_match 0 := ⟨⟨wl_1030, wl_1031, wl_11, wl_1032⟩, (by decide +kernel), by decide⟩
def m_X10_mostOf : hm_M := (yX10_mostOf, cX10_mostOf, 1, (some FieldType.int))
theorem mo_X10_mostOf : hm_OS m_X10_mostOf 1 := ⟨⟨wl_1083, wl_11, wl_1084⟩, (by decide +kernel), by decide⟩
def m_X10_must : hm_M := (yX10_must, cX10_must, 2, none)
theorem mo_X10_must : hm_OV m_X10_must 1 := ⟨⟨wl_1064, wp_79, wl_11, wl_1065⟩, (by decide +kernel), by decide⟩
def m_X10_mustEnd : hm_M := (yX10_mustEnd, cX10_mustEnd, 1, none)
theorem mo_X10_mustEnd : hm_OV m_X10_mustEnd 0 := ⟨⟨wl_1072, wp_81, wl_11, wl_1073⟩, (by decide +kernel), by decide⟩
def m_X10_named : hm_M := (yX10_named, cX10_named, 2, (some FieldType.int))
theorem mo_X10_named : hm_OV m_X10_named 1 := ⟨⟨wl_1103, wp_85, wl_11, wl_1104⟩, (by decide +kernel), by decide⟩
def m_X10_next : hm_M := (yX10_next, cX10_next, 2, none)
theorem mo_X10_next : hm_OV m_X10_next 0 := ⟨⟨wl_1035, wp_74, wl_11, wl_1036⟩, (by decide +kernel), by decide⟩
def m_X10_nextNumber : hm_M := (yX10_nextNumber, cX10_nextNumber, 3, none)
theorem mo_X10_nextNumber : hm_OV m_X10_nextNumber 0 := ⟨⟨wl_1050, wp_76, wl_11, wl_1051⟩, (by decide +kernel), by decide⟩
def m_X10_noneBelow : hm_M := (yX10_noneBelow, cX10_noneBelow, 1, (some FieldType.int))
theorem mo_X10_noneBelow : hm_OS m_X10_noneBelow 1 := ⟨⟨wl_1192, wl_11, wl_1193⟩, (by decide +kernel), by decide⟩
def m_X10_number : hm_M := (yX10_number, cX10_number, 4, (some FieldType.int))
theorem mo_X10_number : hm_OV m_X10_number 2 := ⟨⟨wl_1087, wp_83, wl_11, wl_1088⟩, (by decide +kernel), by decide⟩
def m_X10_of : hm_M := (yX10_of, cX10_of, 4, (some FieldType.int))
theorem mo_X10_of : hm_OV m_X10_of 3 := ⟨⟨wl_1134, wp_87, wl_11, wl_1135⟩, (by decide +kernel), by decide⟩
def m_X10_ownMark : hm_M := (yX10_ownMark, cX10_ownMark, 4, (some FieldType.int))
theorem mo_X10_ownMark : hm_OV m_X10_ownMark 3 := ⟨⟨wl_1295, wp_101, wl_11, wl_1296⟩, (by decide +kernel), by decide⟩
def m_X10_plainSize : hm_M := (yX10_plainSize, cX10_plainSize, 3, (some FieldType.int))
theorem mo_X10_plainSize : hm_OV m_X10_plainSize 2 := ⟨⟨wl_1311, wp_105, wl_11, wl_1312⟩, (by decide +kernel), by decide⟩
def m_X10_pull : hm_M := (yX10_pull, cX10_pull, 2, (some FieldType.int))
theorem mo_X10_pull : hm_OV m_X10_pull 1 := ⟨⟨wl_1187, wl_1188, wl_11, wl_1189⟩, (by decide +kernel), by decide⟩
def m_X10_puller : hm_M := (yX10_puller, cX10_puller, 4, (some FieldType.int))
theorem mo_X10_puller : hm_OV m_X10_puller 3 := ⟨⟨wl_1121, wl_1122, wl_11, wl_1123⟩, (by decide +kernel), by decide⟩
def m_X10_read : hm_M := (yX10_read, cX10_read, 5, (some FieldType.int))
theorem mo_X10_read : hm_OV m_X10_read 1 := ⟨⟨wl_1258, wl_1259, wl_11, wl_1260⟩, (by decide +kernel), by decide⟩
def m_X10_readPuller : hm_M := (yX10_readPuller, cX10_readPuller, 4, none)
theorem mo_X10_readPuller : hm_OV m_X10_readPuller 1 := ⟨⟨wl_1077, wp_82, wl_11, wl_1078⟩, (by decide +kernel), by decide⟩
def m_X10_readRule : hm_M := (yX10_readRule, cX10_readRule, 8, none)
theorem mo_X10_readRule : hm_OV m_X10_readRule 1 := ⟨⟨wl_1092, wp_84, wl_11, wl_1093⟩, (by decide +kernel), by decide⟩
def m_X10_readSide : hm_M := (yX10_readSide, cX10_readSide, 2, none)
theorem mo_X10_readSide : hm_OV m_X10_readSide 1 := ⟨⟨wl_1055, wp_77, wl_11, wl_1056⟩, (by decide +kernel), by decide⟩
def m_X10_restedSize : hm_M := (yX10_restedSize, cX10_restedSize, 3, (some FieldType.int))
theorem mo_X10_restedSize : hm_OV m_X10_restedSize 2 := ⟨⟨wl_1315, wp_106, wl_11, wl_1316⟩, (by decide +kernel), by decide⟩
def m_X10_restore : hm_M := (yX10_restore, cX10_restore, 3, (some FieldType.int))
theorem mo_X10_restore : hm_OV m_X10_restore 1 := ⟨⟨wl_1266, wl_1267, wl_11, wl_1268⟩, (by decide +kernel), by decide⟩
def m_X10_ruled : hm_M := (yX10_ruled, cX10_ruled, 6, (some FieldType.int))
theorem mo_X10_ruled : hm_OV m_X10_ruled 1 := ⟨⟨wl_1156, wp_90, wl_11, wl_1157⟩, (by decide +kernel), by decide⟩
def m_X10_set : hm_M := (yX10_set, cX10_set, 4, (some FieldType.int))
theorem mo_X10_set : hm_OV m_X10_set 3 := ⟨⟨wl_1011, wl_1012, wl_11, wl_1013⟩, (by decide +kernel), by decide⟩
def m_X10_sheet : hm_M := (yX10_sheet, cX10_sheet, 5, (some FieldType.int))
theorem mo_X10_sheet : hm_OV m_X10_sheet 3 := ⟨⟨wl_993, wl_994, wl_11, wl_995⟩, (by decide +kernel), by decide⟩
def m_X10_spentSize : hm_M := (yX10_spentSize, cX10_spentSize, 3, (some FieldType.int))
theorem mo_X10_spentSize : hm_OV m_X10_spentSize 2 := ⟨⟨wl_1307, wp_104, wl_11, wl_1308⟩, (by decide +kernel), by decide⟩
def m_X10_stands : hm_M := (yX10_stands, cX10_stands, 10, (some FieldType.int))
theorem mo_X10_stands : hm_OV m_X10_stands 2 := ⟨⟨wl_1213, wl_1214, wl_11, wl_1215⟩, (by decide +kernel), by decide⟩
def m_X10_start : hm_M := (yX10_start, cX10_start, 3, none)
theorem mo_X10_start : hm_OV m_X10_start 1 := ⟨⟨wl_1143, wp_88, wl_11, wl_1144⟩, (by decide +kernel), by decide⟩
def m_X10_status : hm_M := (yX10_status, cX10_status, 1, (some FieldType.int))
theorem mo_X10_status : hm_OV m_X10_status 0 := ⟨⟨wl_1334, wl_1335, wl_11, wl_1336⟩, (by decide +kernel), by decide⟩
def m_X10_takes : hm_M := (yX10_takes, cX10_takes, 1, (some FieldType.int))
theorem mo_X10_takes : hm_OS m_X10_takes 1 := ⟨⟨wl_1171, wl_11, wl_1172⟩, (by decide +kernel), by decide⟩
def m_X10_tenth : hm_M := (yX10_tenth, cX10_tenth, 6, none)
theorem mo_X10_tenth : hm_OV m_X10_tenth 2 := ⟨⟨wl_1164, wp_92, wl_11, wl_1165⟩, (by decide +kernel), by decide⟩
def m_X10_three : hm_M := (yX10_three, cX10_three, 5, (some FieldType.int))
theorem mo_X10_three : hm_OV m_X10_three 2 := ⟨⟨wl_1203, wl_1204, wl_11, wl_1205⟩, (by decide +kernel), by decide⟩
def m_X10_together : hm_M := (yX10_together, cX10_together, 11, (some FieldType.int))
theorem mo_X10_together : hm_OV m_X10_together 3 := ⟨⟨wl_1208, wl_1209, wl_11, wl_1210⟩, (by decide +kernel), by decide⟩
def m_X10_told : hm_M := (yX10_told, cX10_told, 6, (some FieldType.int))
theorem mo_X10_told : hm_OV m_X10_told 3 := ⟨⟨wl_1182, wl_1183, wl_11, wl_1184⟩, (by decide +kernel), by decide⟩
def m_X10_trace : hm_M := (yX10_trace, cX10_trace, 2, (some FieldType.int))
theorem mo_X10_trace : hm_OV m_X10_trace 1 := ⟨⟨wl_1326, wl_1327, wl_11, wl_1328⟩, (by decide +kernel), by decide⟩
def m_X10_whatOf : hm_M := (yX10_whatOf, cX10_whatOf, 2, (some FieldType.int))
theorem mo_X10_whatOf : hm_OS m_X10_whatOf 1 := ⟨⟨wl_1095, wl_11, wl_1096⟩, (by decide +kernel), by decide⟩
def m_X10_word : hm_M := (yX10_word, cX10_word, 4, (some FieldType.long))
theorem mo_X10_word : hm_OV m_X10_word 0 := ⟨⟨wl_1059, wp_78, wl_11, wl_1060⟩, (by decide +kernel), by decide⟩
def m_X10_worthAt : hm_M := (yX10_worthAt, cX10_worthAt, 6, (some FieldType.int))
theorem mo_X10_worthAt : hm_OV m_X10_worthAt 3 := ⟨⟨wl_1221, wp_96, wl_11, wl_1222⟩, (by decide +kernel), by decide⟩
def m_X2_bestMove : hm_M := (yX2_bestMove, cX2_bestMove, 6, (some FieldType.int))
theorem mo_X2_bestMove : hm_OV m_X2_bestMove 3 := ⟨⟨wl_726, wp_49, wl_8, wl_727⟩, (by decide +kernel), by decide⟩
def m_X2_bestOf : hm_M := (yX2_bestOf, cX2_bestOf, 4, (some FieldType.int))
theorem mo_X2_bestOf : hm_OV m_X2_bestOf 3 := ⟨⟨wl_755, wp_53, wl_8, wl_756⟩, (by decide +kernel), by decide⟩
def m_X2_breathAfter : hm_M := (yX2_breathAfter, cX2_breathAfter, 2, (some FieldType.int))
theorem mo_X2_breathAfter : hm_OS m_X2_breathAfter 2 := ⟨⟨wl_738, wl_8, wl_739⟩, (by decide +kernel), by decide⟩
def m_X2_can : hm_M := (yX2_can, cX2_can, 2, (some FieldType.boolean))
theorem mo_X2_can : hm_OS m_X2_can 2 := ⟨⟨wl_729, wl_8, wl_730⟩, (by decide +kernel), by decide⟩
def m_X2_fillTo : hm_M := (yX2_fillTo, cX2_fillTo, 5, none)
theorem mo_X2_fillTo : hm_OV m_X2_fillTo 1 := ⟨⟨wl_722, wp_48, wl_8, wl_723⟩, (by decide +kernel), by decide⟩
def m_X2_gainBy : hm_M := (yX2_gainBy, cX2_gainBy, 6, (some FieldType.int))
theorem mo_X2_gainBy : hm_OV m_X2_gainBy 5 := ⟨⟨wl_745, wp_51, wl_8, wl_746⟩, (by decide +kernel), by decide⟩
def m_X2_valueOf : hm_M := (yX2_valueOf, cX2_valueOf, 4, (some FieldType.int))
theorem mo_X2_valueOf : hm_OV m_X2_valueOf 3 := ⟨⟨wl_751, wp_52, wl_8, wl_752⟩, (by decide +kernel), by decide⟩
def m_X2_worstOf : hm_M := (yX2_worstOf, cX2_worstOf, 8, (some FieldType.int))
theorem mo_X2_worstOf : hm_OV m_X2_worstOf 4 := ⟨⟨wl_735, wp_50, wl_8, wl_736⟩, (by decide +kernel), by decide⟩
def m_X3_become : hm_M := (yX3_become, cX3_become, 2, none)
theorem mo_X3_become : hm_OV m_X3_become 1 := ⟨⟨wl_514, wp_20, wl_3, wl_515⟩, (by decide +kernel), by decide⟩
def m_X3_pullers : hm_M := (yX3_pullers, cX3_pullers, 1, (some FieldType.int))
theorem mo_X3_pullers : hm_OV m_X3_pullers 0 := ⟨⟨wl_528, wp_23, wl_3, wl_529⟩, (by decide +kernel), by decide⟩
def m_X4_bestNext : hm_M := (yX4_bestNext, cX4_bestNext, 5, (some FieldType.int))
theorem mo_X4_bestNext : hm_OV m_X4_bestNext 2 := ⟨⟨wl_686, wp_44, wl_6, wl_687⟩, (by decide +kernel), by decide⟩
def m_X4_pullerAt : hm_M := (yX4_pullerAt, cX4_pullerAt, 5, (some FieldType.int))
theorem mo_X4_pullerAt : hm_OV m_X4_pullerAt 2 := ⟨⟨wl_703, wp_46, wl_6, wl_704⟩, (by decide +kernel), by decide⟩
def m_X4_weigh : hm_M := (yX4_weigh, cX4_weigh, 4, none)
theorem mo_X4_weigh : hm_OV m_X4_weigh 1 := ⟨⟨wl_682, wp_43, wl_6, wl_683⟩, (by decide +kernel), by decide⟩
def m_X4_worthWith : hm_M := (yX4_worthWith, cX4_worthWith, 6, (some FieldType.int))
theorem mo_X4_worthWith : hm_OV m_X4_worthWith 3 := ⟨⟨wl_690, wp_45, wl_6, wl_691⟩, (by decide +kernel), by decide⟩
def m_X5_advance : hm_M := (yX5_advance, cX5_advance, 1, none)
theorem mo_X5_advance : hm_OV m_X5_advance 0 := ⟨⟨wl_392, wp_7, wl_2, wl_393⟩, (by decide +kernel), by decide⟩
def m_X5_append : hm_M := (yX5_append, cX5_append, 5, (some FieldType.boolean))
theorem mo_X5_append : hm_OV m_X5_append 2 := ⟨⟨wl_379, wp_5, wl_2, wl_380⟩, (by decide +kernel), by decide⟩
def m_X5_isFigure : hm_M := (yX5_isFigure, cX5_isFigure, 1, (some FieldType.boolean))
theorem mo_X5_isFigure : hm_OS m_X5_isFigure 1 := ⟨⟨wl_402, wl_2, wl_403⟩, (by decide +kernel), by decide⟩
def m_X5_isLetter : hm_M := (yX5_isLetter, cX5_isLetter, 1, (some FieldType.boolean))
theorem mo_X5_isLetter : hm_OS m_X5_isLetter 1 := ⟨⟨wl_395, wl_2, wl_396⟩, (by decide +kernel), by decide⟩
def m_X5_isName : hm_M := (yX5_isName, cX5_isName, 3, (some FieldType.boolean))
theorem mo_X5_isName : hm_OV m_X5_isName 1 := ⟨⟨wl_419, wp_12, wl_2, wl_420⟩, (by decide +kernel), by decide⟩
def m_X5_readGround : hm_M := (yX5_readGround, cX5_readGround, 2, (some FieldType.boolean))
theorem mo_X5_readGround : hm_OV m_X5_readGround 1 := ⟨⟨wl_508, wp_19, wl_2, wl_509⟩, (by decide +kernel), by decide⟩
def m_X5_readHead : hm_M := (yX5_readHead, cX5_readHead, 1, (some FieldType.boolean))
theorem mo_X5_readHead : hm_OV m_X5_readHead 0 := ⟨⟨wl_410, wp_10, wl_2, wl_411⟩, (by decide +kernel), by decide⟩
def m_X5_readNumber : hm_M := (yX5_readNumber, cX5_readNumber, 5, (some FieldType.boolean))
theorem mo_X5_readNumber : hm_OV m_X5_readNumber 4 := ⟨⟨wl_484, wp_16, wl_2, wl_485⟩, (by decide +kernel), by decide⟩
def m_X5_readOneOf : hm_M := (yX5_readOneOf, cX5_readOneOf, 8, (some FieldType.boolean))
theorem mo_X5_readOneOf : hm_OV m_X5_readOneOf 6 := ⟨⟨wl_497, wp_18, wl_2, wl_498⟩, (by decide +kernel), by decide⟩
def m_X5_readPullers : hm_M := (yX5_readPullers, cX5_readPullers, 5, (some FieldType.boolean))
theorem mo_X5_readPullers : hm_OV m_X5_readPullers 1 := ⟨⟨wl_480, wp_15, wl_2, wl_481⟩, (by decide +kernel), by decide⟩
def m_X5_readRules : hm_M := (yX5_readRules, cX5_readRules, 5, (some FieldType.boolean))
theorem mo_X5_readRules : hm_OV m_X5_readRules 1 := ⟨⟨wl_488, wp_17, wl_2, wl_489⟩, (by decide +kernel), by decide⟩
def m_X5_readSign : hm_M := (yX5_readSign, cX5_readSign, 1, (some FieldType.boolean))
theorem mo_X5_readSign : hm_OV m_X5_readSign 0 := ⟨⟨wl_475, wp_14, wl_2, wl_476⟩, (by decide +kernel), by decide⟩
def m_X5_readText : hm_M := (yX5_readText, cX5_readText, 3, (some FieldType.boolean))
theorem mo_X5_readText : hm_OV m_X5_readText 1 := ⟨⟨wl_388, wp_6, wl_2, wl_389⟩, (by decide +kernel), by decide⟩
def m_X5_readWord : hm_M := (yX5_readWord, cX5_readWord, 2, (some FieldType.boolean))
theorem mo_X5_readWord : hm_OV m_X5_readWord 1 := ⟨⟨wl_415, wp_11, wl_2, wl_416⟩, (by decide +kernel), by decide⟩
def m_X5_refuse : hm_M := (yX5_refuse, cX5_refuse, 2, (some FieldType.boolean))
theorem mo_X5_refuse : hm_OV m_X5_refuse 1 := ⟨⟨wl_471, wp_13, wl_2, wl_472⟩, (by decide +kernel), by decide⟩
def m_X5_takeName : hm_M := (yX5_takeName, cX5_takeName, 1, none)
theorem mo_X5_takeName : hm_OV m_X5_takeName 0 := ⟨⟨wl_399, wp_8, wl_2, wl_400⟩, (by decide +kernel), by decide⟩
def m_X5_takeNumber : hm_M := (yX5_takeNumber, cX5_takeNumber, 3, none)
theorem mo_X5_takeNumber : hm_OV m_X5_takeNumber 0 := ⟨⟨wl_406, wp_9, wl_2, wl_407⟩, (by decide +kernel), by decide⟩
def m_X6_cut : hm_M := (yX6_cut, cX6_cut, 2, (some FieldType.int))
theorem mo_X6_cut : hm_OV m_X6_cut 1 := ⟨⟨wl_360, wp_4, wl_10, wl_361⟩, (by decide +kernel), by decide⟩
def m_X6_holds : hm_M := (yX6_holds, cX6_holds, 3, (some FieldType.boolean))
theorem mo_X6_holds : hm_OV m_X6_holds 2 := ⟨⟨wl_356, wp_3, wl_10, wl_357⟩, (by decide +kernel), by decide⟩
def m_X6_lay : hm_M := (yX6_lay, cX6_lay, 4, none)
theorem mo_X6_lay : hm_OV m_X6_lay 2 := ⟨⟨wl_344, wp_1, wl_10, wl_345⟩, (by decide +kernel), by decide⟩
def m_X7_become : hm_M := (yX7_become, cX7_become, 3, none)
theorem mo_X7_become : hm_OV m_X7_become 1 := ⟨⟨wl_519, wp_21, wl_4, wl_520⟩, (by decide +kernel), by decide⟩
def m_X7_forceTogether : hm_M := (yX7_forceTogether, cX7_forceTogether, 6, (some FieldType.int))
theorem mo_X7_forceTogether : hm_OV m_X7_forceTogether 2 := ⟨⟨wl_670, wp_42, wl_4, wl_671⟩, (by decide +kernel), by decide⟩
def m_X7_practised : hm_M := (yX7_practised, cX7_practised, 4, (some FieldType.int))
theorem mo_X7_practised : hm_OS m_X7_practised 2 := ⟨⟨wl_673, wl_4, wl_674⟩, (by decide +kernel), by decide⟩
def m_X7_strongestTenth : hm_M := (yX7_strongestTenth, cX7_strongestTenth, 4, (some FieldType.int))
theorem mo_X7_strongestTenth : hm_OV m_X7_strongestTenth 1 := ⟨⟨wl_666, wp_41, wl_4, wl_667⟩, (by decide +kernel), by decide⟩
def m_X8_become : hm_M := (yX8_become, cX8_become, 3, none)
theorem mo_X8_become : hm_OV m_X8_become 1 := ⟨⟨wl_790, wp_56, wl_5, wl_791⟩, (by decide +kernel), by decide⟩
def m_X8_beginPull : hm_M := (yX8_beginPull, cX8_beginPull, 5, none)
theorem mo_X8_beginPull : hm_OV m_X8_beginPull 2 := ⟨⟨wl_549, wp_25, wl_5, wl_550⟩, (by decide +kernel), by decide⟩
def m_X8_comesRound : hm_M := (yX8_comesRound, cX8_comesRound, 5, (some FieldType.boolean))
theorem mo_X8_comesRound : hm_OV m_X8_comesRound 3 := ⟨⟨wl_781, wp_55, wl_5, wl_782⟩, (by decide +kernel), by decide⟩
def m_X8_doTenth : hm_M := (yX8_doTenth, cX8_doTenth, 7, none)
theorem mo_X8_doTenth : hm_OV m_X8_doTenth 4 := ⟨⟨wl_582, wp_32, wl_5, wl_583⟩, (by decide +kernel), by decide⟩
def m_X8_endUnder : hm_M := (yX8_endUnder, cX8_endUnder, 2, (some FieldType.int))
theorem mo_X8_endUnder : hm_OV m_X8_endUnder 1 := ⟨⟨wl_598, wp_34, wl_5, wl_599⟩, (by decide +kernel), by decide⟩
def m_X8_feltBy : hm_M := (yX8_feltBy, cX8_feltBy, 4, (some FieldType.int))
theorem mo_X8_feltBy : hm_OV m_X8_feltBy 3 := ⟨⟨wl_566, wp_28, wl_5, wl_567⟩, (by decide +kernel), by decide⟩
def m_X8_forceOf : hm_M := (yX8_forceOf, cX8_forceOf, 3, (some FieldType.int))
theorem mo_X8_forceOf : hm_OS m_X8_forceOf 3 := ⟨⟨wl_594, wl_5, wl_595⟩, (by decide +kernel), by decide⟩
def m_X8_forceOfSide : hm_M := (yX8_forceOfSide, cX8_forceOfSide, 6, (some FieldType.int))
theorem mo_X8_forceOfSide : hm_OV m_X8_forceOfSide 3 := ⟨⟨wl_578, wp_31, wl_5, wl_579⟩, (by decide +kernel), by decide⟩
def m_X8_goAsTold : hm_M := (yX8_goAsTold, cX8_goAsTold, 6, (some FieldType.int))
theorem mo_X8_goAsTold : hm_OV m_X8_goAsTold 4 := ⟨⟨wl_616, wp_36, wl_5, wl_617⟩, (by decide +kernel), by decide⟩
def m_X8_goByRules : hm_M := (yX8_goByRules, cX8_goByRules, 4, (some FieldType.int))
theorem mo_X8_goByRules : hm_OV m_X8_goByRules 2 := ⟨⟨wl_558, wp_26, wl_5, wl_559⟩, (by decide +kernel), by decide⟩
def m_X8_goTenth : hm_M := (yX8_goTenth, cX8_goTenth, 7, none)
theorem mo_X8_goTenth : hm_OV m_X8_goTenth 3 := ⟨⟨wl_574, wp_30, wl_5, wl_575⟩, (by decide +kernel), by decide⟩
def m_X8_hasDoings : hm_M := (yX8_hasDoings, cX8_hasDoings, 1, (some FieldType.boolean))
theorem mo_X8_hasDoings : hm_OV m_X8_hasDoings 0 := ⟨⟨wl_803, wp_57, wl_5, wl_804⟩, (by decide +kernel), by decide⟩
def m_X8_keptAgo : hm_M := (yX8_keptAgo, cX8_keptAgo, 3, (some FieldType.int))
theorem mo_X8_keptAgo : hm_OV m_X8_keptAgo 2 := ⟨⟨wl_641, wp_39, wl_5, wl_642⟩, (by decide +kernel), by decide⟩
def m_X8_keptTenths : hm_M := (yX8_keptTenths, cX8_keptTenths, 1, (some FieldType.int))
theorem mo_X8_keptTenths : hm_OV m_X8_keptTenths 0 := ⟨⟨wl_637, wp_38, wl_5, wl_638⟩, (by decide +kernel), by decide⟩
def m_X8_layGround : hm_M := (yX8_layGround, cX8_layGround, 2, none)
theorem mo_X8_layGround : hm_OV m_X8_layGround 1 := ⟨⟨wl_524, wp_22, wl_5, wl_525⟩, (by decide +kernel), by decide⟩
def m_X8_meanBreath : hm_M := (yX8_meanBreath, cX8_meanBreath, 6, (some FieldType.int))
theorem mo_X8_meanBreath : hm_OV m_X8_meanBreath 2 := ⟨⟨wl_570, wp_29, wl_5, wl_571⟩, (by decide +kernel), by decide⟩
def m_X8_orderAt : hm_M := (yX8_orderAt, cX8_orderAt, 3, (some FieldType.int))
theorem mo_X8_orderAt : hm_OV m_X8_orderAt 2 := ⟨⟨wl_586, wp_33, wl_5, wl_587⟩, (by decide +kernel), by decide⟩
def m_X8_orderByRules : hm_M := (yX8_orderByRules, cX8_orderByRules, 7, (some FieldType.int))
theorem mo_X8_orderByRules : hm_OV m_X8_orderByRules 2 := ⟨⟨wl_562, wp_27, wl_5, wl_563⟩, (by decide +kernel), by decide⟩
def m_X8_roundOf : hm_M := (yX8_roundOf, cX8_roundOf, 4, (some FieldType.int))
theorem mo_X8_roundOf : hm_OV m_X8_roundOf 1 := ⟨⟨wl_776, wp_54, wl_5, wl_777⟩, (by decide +kernel), by decide⟩
def m_X8_sideOf : hm_M := (yX8_sideOf, cX8_sideOf, 1, (some FieldType.int))
theorem mo_X8_sideOf : hm_OS m_X8_sideOf 1 := ⟨⟨wl_655, wl_5, wl_656⟩, (by decide +kernel), by decide⟩
def m_X8_state : hm_M := (yX8_state, cX8_state, 2, (some FieldType.int))
theorem mo_X8_state : hm_OV m_X8_state 1 := ⟨⟨wl_624, wp_37, wl_5, wl_625⟩, (by decide +kernel), by decide⟩
def m_X8_wearEnd : hm_M := (yX8_wearEnd, cX8_wearEnd, 5, none)
theorem mo_X8_wearEnd : hm_OV m_X8_wearEnd 3 := ⟨⟨wl_602, wp_35, wl_5, wl_603⟩, (by decide +kernel), by decide⟩
def m_X8_winnerOfThree : hm_M := (yX8_winnerOfThree, cX8_winnerOfThree, 7, (some FieldType.int))
theorem mo_X8_winnerOfThree : hm_OV m_X8_winnerOfThree 3 := ⟨⟨wl_649, wp_40, wl_5, wl_650⟩, (by decide +kernel), by decide⟩
def m_X9_areOrders : hm_M := (yX9_areOrders, cX9_areOrders, 4, (some FieldType.boolean))
theorem mo_X9_areOrders : hm_OS m_X9_areOrders 3 := ⟨⟨wl_612, wl_1, wl_613⟩, (by decide +kernel), by decide⟩
def m_X9_as : hm_M := (yX9_as, cX9_as, 4, (some FieldType.int))
theorem mo_X9_as : hm_OV m_X9_as 3 := ⟨⟨wl_810, wl_811, wl_1, wl_812⟩, (by decide +kernel), by decide⟩
def m_X9_ask : hm_M := (yX9_ask, cX9_ask, 4, (some FieldType.int))
theorem mo_X9_ask : hm_OV m_X9_ask 3 := ⟨⟨wl_817, wl_818, wl_1, wl_819⟩, (by decide +kernel), by decide⟩
def m_X9_begin : hm_M := (yX9_begin, cX9_begin, 2, (some FieldType.int))
theorem mo_X9_begin : hm_OV m_X9_begin 1 := ⟨⟨wl_543, wl_544, wl_1, wl_545⟩, (by decide +kernel), by decide⟩
def m_X9_breathLeft : hm_M := (yX9_breathLeft, cX9_breathLeft, 7, (some FieldType.int))
theorem mo_X9_breathLeft : hm_OS m_X9_breathLeft 5 := ⟨⟨wl_766, wl_1, wl_767⟩, (by decide +kernel), by decide⟩
def m_X9_chosen : hm_M := (yX9_chosen, cX9_chosen, 4, (some FieldType.int))
theorem mo_X9_chosen : hm_OV m_X9_chosen 3 := ⟨⟨wl_706, wl_707, wl_1, wl_708⟩, (by decide +kernel), by decide⟩
def m_X9_copy : hm_M := (yX9_copy, cX9_copy, 8, (some FieldType.int))
theorem mo_X9_copy : hm_OV m_X9_copy 5 := ⟨⟨wl_363, wl_364, wl_1, wl_365⟩, (by decide +kernel), by decide⟩
def m_X9_count : hm_M := (yX9_count, cX9_count, 2, (some FieldType.int))
theorem mo_X9_count : hm_OV m_X9_count 1 := ⟨⟨wl_877, wl_878, wl_1, wl_879⟩, (by decide +kernel), by decide⟩
def m_X9_doing : hm_M := (yX9_doing, cX9_doing, 4, (some FieldType.int))
theorem mo_X9_doing : hm_OV m_X9_doing 3 := ⟨⟨wl_627, wl_628, wl_1, wl_629⟩, (by decide +kernel), by decide⟩
def m_X9_drop : hm_M := (yX9_drop, cX9_drop, 3, (some FieldType.int))
theorem mo_X9_drop : hm_OV m_X9_drop 1 := ⟨⟨wl_370, wl_371, wl_1, wl_372⟩, (by decide +kernel), by decide⟩
def m_X9_fault : hm_M := (yX9_fault, cX9_fault, 1, (some FieldType.int))
theorem mo_X9_fault : hm_OV m_X9_fault 0 := ⟨⟨wl_531, wl_532, wl_1, wl_533⟩, (by decide +kernel), by decide⟩
def m_X9_feed : hm_M := (yX9_feed, cX9_feed, 4, (some FieldType.int))
theorem mo_X9_feed : hm_OV m_X9_feed 2 := ⟨⟨wl_374, wl_375, wl_1, wl_376⟩, (by decide +kernel), by decide⟩
def m_X9_found : hm_M := (yX9_found, cX9_found, 2, (some FieldType.int))
theorem mo_X9_found : hm_OV m_X9_found 1 := ⟨⟨wl_339, wp_0, wl_1, wl_340⟩, (by decide +kernel), by decide⟩
def m_X9_game : hm_M := (yX9_game, cX9_game, 5, (some FieldType.int))
theorem mo_X9_game : hm_OV m_X9_game 4 := ⟨⟨wl_717, wl_718, wl_1, wl_719⟩, (by decide +kernel), by decide⟩
def m_X9_go : hm_M := (yX9_go, cX9_go, 2, (some FieldType.int))
theorem mo_X9_go : hm_OV m_X9_go 1 := ⟨⟨wl_553, wl_554, wl_1, wl_555⟩, (by decide +kernel), by decide⟩
def m_X9_image : hm_M := (yX9_image, cX9_image, 2, (some FieldType.int))
theorem mo_X9_image : hm_OV m_X9_image 1 := ⟨⟨wl_785, wl_786, wl_1, wl_787⟩, (by decide +kernel), by decide⟩
def m_X9_isPuller : hm_M := (yX9_isPuller, cX9_isPuller, 3, (some FieldType.boolean))
theorem mo_X9_isPuller : hm_OV m_X9_isPuller 2 := ⟨⟨wl_540, wp_24, wl_1, wl_541⟩, (by decide +kernel), by decide⟩
def m_X9_kind : hm_M := (yX9_kind, cX9_kind, 3, (some FieldType.int))
theorem mo_X9_kind : hm_OV m_X9_kind 2 := ⟨⟨wl_798, wl_799, wl_1, wl_800⟩, (by decide +kernel), by decide⟩
def m_X9_kindOf : hm_M := (yX9_kindOf, cX9_kindOf, 3, (some FieldType.int))
theorem mo_X9_kindOf : hm_OV m_X9_kindOf 2 := ⟨⟨wl_807, wp_58, wl_1, wl_808⟩, (by decide +kernel), by decide⟩
def m_X9_later : hm_M := (yX9_later, cX9_later, 3, (some FieldType.int))
theorem mo_X9_later : hm_OV m_X9_later 2 := ⟨⟨wl_632, wl_633, wl_1, wl_634⟩, (by decide +kernel), by decide⟩
def m_X9_left : hm_M := (yX9_left, cX9_left, 10, (some FieldType.int))
theorem mo_X9_left : hm_OV m_X9_left 6 := ⟨⟨wl_759, wl_760, wl_1, wl_761⟩, (by decide +kernel), by decide⟩
def m_X9_leftBehind : hm_M := (yX9_leftBehind, cX9_leftBehind, 10, (some FieldType.int))
theorem mo_X9_leftBehind : hm_OS m_X9_leftBehind 5 := ⟨⟨wl_763, wl_1, wl_764⟩, (by decide +kernel), by decide⟩
def m_X9_match : hm_M := (yX9_match, cX9_match, 2, (some FieldType.int))
theorem mo_X9_match : hm_OV m_X9_match 0 := ⟨⟨wl_383, wl_384, wl_1, wl_385⟩, (by decide +kernel), by decide⟩
def m_X9_pull : hm_M := (yX9_pull, cX9_pull, 2, (some FieldType.int))
theorem mo_X9_pull : hm_OV m_X9_pull 1 := ⟨⟨wl_619, wl_620, wl_1, wl_621⟩, (by decide +kernel), by decide⟩
def m_X9_puller : hm_M := (yX9_puller, cX9_puller, 4, (some FieldType.int))
theorem mo_X9_puller : hm_OV m_X9_puller 3 := ⟨⟨wl_535, wl_536, wl_1, wl_537⟩, (by decide +kernel), by decide⟩
def m_X9_read : hm_M := (yX9_read, cX9_read, 2, (some FieldType.int))
theorem mo_X9_read : hm_OV m_X9_read 1 := ⟨⟨wl_771, wl_772, wl_1, wl_773⟩, (by decide +kernel), by decide⟩
def m_X9_restore : hm_M := (yX9_restore, cX9_restore, 2, (some FieldType.int))
theorem mo_X9_restore : hm_OV m_X9_restore 1 := ⟨⟨wl_794, wl_795, wl_1, wl_796⟩, (by decide +kernel), by decide⟩
def m_X9_set : hm_M := (yX9_set, cX9_set, 5, (some FieldType.int))
theorem mo_X9_set : hm_OV m_X9_set 3 := ⟨⟨wl_351, wl_352, wl_1, wl_353⟩, (by decide +kernel), by decide⟩
def m_X9_sheet : hm_M := (yX9_sheet, cX9_sheet, 4, (some FieldType.int))
theorem mo_X9_sheet : hm_OV m_X9_sheet 3 := ⟨⟨wl_330, wl_331, wl_1, wl_332⟩, (by decide +kernel), by decide⟩
def m_X9_sheetsThatAre : hm_M := (yX9_sheetsThatAre, cX9_sheetsThatAre, 3, (some FieldType.int))
theorem mo_X9_sheetsThatAre : hm_OV m_X9_sheetsThatAre 0 := ⟨⟨wl_882, wp_72, wl_1, wl_883⟩, (by decide +kernel), by decide⟩
def m_X9_stands : hm_M := (yX9_stands, cX9_stands, 4, (some FieldType.int))
theorem mo_X9_stands : hm_OV m_X9_stands 2 := ⟨⟨wl_677, wl_678, wl_1, wl_679⟩, (by decide +kernel), by decide⟩
def m_X9_status : hm_M := (yX9_status, cX9_status, 1, (some FieldType.int))
theorem mo_X9_status : hm_OV m_X9_status 0 := ⟨⟨wl_885, wl_886, wl_1, wl_887⟩, (by decide +kernel), by decide⟩
def m_X9_three : hm_M := (yX9_three, cX9_three, 3, (some FieldType.int))
theorem mo_X9_three : hm_OV m_X9_three 2 := ⟨⟨wl_644, wl_645, wl_1, wl_646⟩, (by decide +kernel), by decide⟩
def m_X9_together : hm_M := (yX9_together, cX9_together, 6, (some FieldType.int))
theorem mo_X9_together : hm_OV m_X9_together 3 := ⟨⟨wl_661, wl_662, wl_1, wl_663⟩, (by decide +kernel), by decide⟩
def m_X9_told : hm_M := (yX9_told, cX9_told, 5, (some FieldType.int))
theorem mo_X9_told : hm_OV m_X9_told 3 := ⟨⟨wl_608, wl_609, wl_1, wl_610⟩, (by decide +kernel), by decide⟩
def m_X9_trace : hm_M := (yX9_trace, cX9_trace, 2, (some FieldType.int))
theorem mo_X9_trace : hm_OV m_X9_trace 1 := ⟨⟨wl_873, wl_874, wl_1, wl_875⟩, (by decide +kernel), by decide⟩
def m_X9_well : hm_M := (yX9_well, cX9_well, 2, (some FieldType.int))
theorem mo_X9_well : hm_OV m_X9_well 1 := ⟨⟨wl_348, wp_2, wl_1, wl_349⟩, (by decide +kernel), by decide⟩
def m_X9_within : hm_M := (yX9_within, cX9_within, 2, (some FieldType.boolean))
theorem mo_X9_within : hm_OS m_X9_within 2 := ⟨⟨wl_334, wl_1, wl_335⟩, (by decide +kernel), by decide⟩
