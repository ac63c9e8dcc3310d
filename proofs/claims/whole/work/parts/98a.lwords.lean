/-! the law's words -/
theorem wr_19 : Cond.classLink "HeelsInLaw" 7 "HeelsIn" ∈ hh_ws := hh_in (List.mem_of_getElem? (i := 128) (by decide +kernel)) rfl
theorem wr_20 : Cond.instantiable "HeelsIn" 14 ∈ hh_ws := hh_in (List.mem_of_getElem? (i := 129) (by decide +kernel)) rfl
theorem wr_21 : Cond.methodLink "HeelsInLaw" 9 ({ cls := "HeelsIn", name := "<init>", desc := "()V" } : MethodName) ∈ hh_ws := hh_in (List.mem_of_getElem? (i := 130) (by decide +kernel)) rfl
theorem wr_329 : Cond.methodLink "HeelsInLaw" 13 ({ cls := "HeelsIn", name := "sheet", desc := "(III)I" } : MethodName) ∈ hh_ws := hh_in (List.mem_of_getElem? (i := 438) (by decide +kernel)) rfl
theorem wr_350 : Cond.methodLink "HeelsInLaw" 18 ({ cls := "HeelsIn", name := "set", desc := "(III)I" } : MethodName) ∈ hh_ws := hh_in (List.mem_of_getElem? (i := 459) (by decide +kernel)) rfl
theorem wr_362 : Cond.methodLink "HeelsInLaw" 22 ({ cls := "HeelsIn", name := "copy", desc := "(IIIII)I" } : MethodName) ∈ hh_ws := hh_in (List.mem_of_getElem? (i := 471) (by decide +kernel)) rfl
theorem wr_369 : Cond.methodLink "HeelsInLaw" 27 ({ cls := "HeelsIn", name := "drop", desc := "(I)I" } : MethodName) ∈ hh_ws := hh_in (List.mem_of_getElem? (i := 478) (by decide +kernel)) rfl
theorem wr_373 : Cond.methodLink "HeelsInLaw" 34 ({ cls := "HeelsIn", name := "feed", desc := "(JI)I" } : MethodName) ∈ hh_ws := hh_in (List.mem_of_getElem? (i := 482) (by decide +kernel)) rfl
theorem wr_382 : Cond.methodLink "HeelsInLaw" 39 ({ cls := "HeelsIn", name := "match", desc := "()I" } : MethodName) ∈ hh_ws := hh_in (List.mem_of_getElem? (i := 491) (by decide +kernel)) rfl
theorem wr_530 : Cond.methodLink "HeelsInLaw" 44 ({ cls := "HeelsIn", name := "fault", desc := "()I" } : MethodName) ∈ hh_ws := hh_in (List.mem_of_getElem? (i := 639) (by decide +kernel)) rfl
theorem wr_534 : Cond.methodLink "HeelsInLaw" 48 ({ cls := "HeelsIn", name := "puller", desc := "(III)I" } : MethodName) ∈ hh_ws := hh_in (List.mem_of_getElem? (i := 643) (by decide +kernel)) rfl
theorem wr_542 : Cond.methodLink "HeelsInLaw" 52 ({ cls := "HeelsIn", name := "begin", desc := "(I)I" } : MethodName) ∈ hh_ws := hh_in (List.mem_of_getElem? (i := 651) (by decide +kernel)) rfl
theorem wr_552 : Cond.methodLink "HeelsInLaw" 56 ({ cls := "HeelsIn", name := "go", desc := "(I)I" } : MethodName) ∈ hh_ws := hh_in (List.mem_of_getElem? (i := 661) (by decide +kernel)) rfl
theorem wr_607 : Cond.methodLink "HeelsInLaw" 60 ({ cls := "HeelsIn", name := "told", desc := "(III)I" } : MethodName) ∈ hh_ws := hh_in (List.mem_of_getElem? (i := 716) (by decide +kernel)) rfl
theorem wr_618 : Cond.methodLink "HeelsInLaw" 64 ({ cls := "HeelsIn", name := "pull", desc := "(I)I" } : MethodName) ∈ hh_ws := hh_in (List.mem_of_getElem? (i := 727) (by decide +kernel)) rfl
theorem wr_626 : Cond.methodLink "HeelsInLaw" 68 ({ cls := "HeelsIn", name := "doing", desc := "(III)I" } : MethodName) ∈ hh_ws := hh_in (List.mem_of_getElem? (i := 735) (by decide +kernel)) rfl
theorem wr_631 : Cond.methodLink "HeelsInLaw" 72 ({ cls := "HeelsIn", name := "later", desc := "(II)I" } : MethodName) ∈ hh_ws := hh_in (List.mem_of_getElem? (i := 740) (by decide +kernel)) rfl
theorem wr_643 : Cond.methodLink "HeelsInLaw" 77 ({ cls := "HeelsIn", name := "three", desc := "(II)I" } : MethodName) ∈ hh_ws := hh_in (List.mem_of_getElem? (i := 752) (by decide +kernel)) rfl
theorem wr_660 : Cond.methodLink "HeelsInLaw" 81 ({ cls := "HeelsIn", name := "together", desc := "(III)I" } : MethodName) ∈ hh_ws := hh_in (List.mem_of_getElem? (i := 769) (by decide +kernel)) rfl
theorem wr_676 : Cond.methodLink "HeelsInLaw" 85 ({ cls := "HeelsIn", name := "stands", desc := "(II)I" } : MethodName) ∈ hh_ws := hh_in (List.mem_of_getElem? (i := 785) (by decide +kernel)) rfl
theorem wr_705 : Cond.methodLink "HeelsInLaw" 89 ({ cls := "HeelsIn", name := "chosen", desc := "(III)I" } : MethodName) ∈ hh_ws := hh_in (List.mem_of_getElem? (i := 814) (by decide +kernel)) rfl
theorem wr_716 : Cond.methodLink "HeelsInLaw" 93 ({ cls := "HeelsIn", name := "game", desc := "(IIII)I" } : MethodName) ∈ hh_ws := hh_in (List.mem_of_getElem? (i := 825) (by decide +kernel)) rfl
theorem wr_758 : Cond.methodLink "HeelsInLaw" 98 ({ cls := "HeelsIn", name := "left", desc := "(IIIIII)I" } : MethodName) ∈ hh_ws := hh_in (List.mem_of_getElem? (i := 867) (by decide +kernel)) rfl
theorem wr_770 : Cond.methodLink "HeelsInLaw" 103 ({ cls := "HeelsIn", name := "read", desc := "(I)I" } : MethodName) ∈ hh_ws := hh_in (List.mem_of_getElem? (i := 879) (by decide +kernel)) rfl
theorem wr_784 : Cond.methodLink "HeelsInLaw" 107 ({ cls := "HeelsIn", name := "image", desc := "(I)I" } : MethodName) ∈ hh_ws := hh_in (List.mem_of_getElem? (i := 893) (by decide +kernel)) rfl
theorem wr_793 : Cond.methodLink "HeelsInLaw" 111 ({ cls := "HeelsIn", name := "restore", desc := "(I)I" } : MethodName) ∈ hh_ws := hh_in (List.mem_of_getElem? (i := 902) (by decide +kernel)) rfl
theorem wr_797 : Cond.methodLink "HeelsInLaw" 115 ({ cls := "HeelsIn", name := "kind", desc := "(II)I" } : MethodName) ∈ hh_ws := hh_in (List.mem_of_getElem? (i := 906) (by decide +kernel)) rfl
theorem wr_809 : Cond.methodLink "HeelsInLaw" 119 ({ cls := "HeelsIn", name := "as", desc := "(III)I" } : MethodName) ∈ hh_ws := hh_in (List.mem_of_getElem? (i := 918) (by decide +kernel)) rfl
theorem wr_816 : Cond.methodLink "HeelsInLaw" 123 ({ cls := "HeelsIn", name := "ask", desc := "(III)I" } : MethodName) ∈ hh_ws := hh_in (List.mem_of_getElem? (i := 925) (by decide +kernel)) rfl
theorem wr_872 : Cond.methodLink "HeelsInLaw" 127 ({ cls := "HeelsIn", name := "trace", desc := "(I)I" } : MethodName) ∈ hh_ws := hh_in (List.mem_of_getElem? (i := 981) (by decide +kernel)) rfl
theorem wr_876 : Cond.methodLink "HeelsInLaw" 131 ({ cls := "HeelsIn", name := "count", desc := "(I)I" } : MethodName) ∈ hh_ws := hh_in (List.mem_of_getElem? (i := 985) (by decide +kernel)) rfl
theorem wr_884 : Cond.methodLink "HeelsInLaw" 135 ({ cls := "HeelsIn", name := "status", desc := "()I" } : MethodName) ∈ hh_ws := hh_in (List.mem_of_getElem? (i := 993) (by decide +kernel)) rfl
theorem wr_888 : Cond.classLink "HeelsInLaw" 10 "HeelsInModel" ∈ hh_ws := hh_in (List.mem_of_getElem? (i := 997) (by decide +kernel)) rfl
theorem wr_889 : Cond.instantiable "HeelsInModel" 32 ∈ hh_ws := hh_in (List.mem_of_getElem? (i := 998) (by decide +kernel)) rfl
theorem wr_890 : Cond.methodLink "HeelsInLaw" 12 ({ cls := "HeelsInModel", name := "<init>", desc := "()V" } : MethodName) ∈ hh_ws := hh_in (List.mem_of_getElem? (i := 999) (by decide +kernel)) rfl
theorem wr_992 : Cond.methodLink "HeelsInLaw" 17 ({ cls := "HeelsInModel", name := "sheet", desc := "(III)I" } : MethodName) ∈ hh_ws := hh_in (List.mem_of_getElem? (i := 1101) (by decide +kernel)) rfl
theorem wr_1010 : Cond.methodLink "HeelsInLaw" 21 ({ cls := "HeelsInModel", name := "set", desc := "(III)I" } : MethodName) ∈ hh_ws := hh_in (List.mem_of_getElem? (i := 1119) (by decide +kernel)) rfl
theorem wr_1014 : Cond.methodLink "HeelsInLaw" 26 ({ cls := "HeelsInModel", name := "copy", desc := "(IIIII)I" } : MethodName) ∈ hh_ws := hh_in (List.mem_of_getElem? (i := 1123) (by decide +kernel)) rfl
theorem wr_1018 : Cond.methodLink "HeelsInLaw" 31 ({ cls := "HeelsInModel", name := "drop", desc := "(I)I" } : MethodName) ∈ hh_ws := hh_in (List.mem_of_getElem? (i := 1127) (by decide +kernel)) rfl
theorem wr_1022 : Cond.methodLink "HeelsInLaw" 38 ({ cls := "HeelsInModel", name := "feed", desc := "(JI)I" } : MethodName) ∈ hh_ws := hh_in (List.mem_of_getElem? (i := 1131) (by decide +kernel)) rfl
theorem wr_1029 : Cond.methodLink "HeelsInLaw" 43 ({ cls := "HeelsInModel", name := "match", desc := "()I" } : MethodName) ∈ hh_ws := hh_in (List.mem_of_getElem? (i := 1138) (by decide +kernel)) rfl
theorem wr_1116 : Cond.methodLink "HeelsInLaw" 47 ({ cls := "HeelsInModel", name := "fault", desc := "()I" } : MethodName) ∈ hh_ws := hh_in (List.mem_of_getElem? (i := 1225) (by decide +kernel)) rfl
theorem wr_1120 : Cond.methodLink "HeelsInLaw" 51 ({ cls := "HeelsInModel", name := "puller", desc := "(III)I" } : MethodName) ∈ hh_ws := hh_in (List.mem_of_getElem? (i := 1229) (by decide +kernel)) rfl
theorem wr_1136 : Cond.methodLink "HeelsInLaw" 55 ({ cls := "HeelsInModel", name := "begin", desc := "(I)I" } : MethodName) ∈ hh_ws := hh_in (List.mem_of_getElem? (i := 1245) (by decide +kernel)) rfl
theorem wr_1145 : Cond.methodLink "HeelsInLaw" 59 ({ cls := "HeelsInModel", name := "go", desc := "(I)I" } : MethodName) ∈ hh_ws := hh_in (List.mem_of_getElem? (i := 1254) (by decide +kernel)) rfl
theorem wr_1181 : Cond.methodLink "HeelsInLaw" 63 ({ cls := "HeelsInModel", name := "told", desc := "(III)I" } : MethodName) ∈ hh_ws := hh_in (List.mem_of_getElem? (i := 1290) (by decide +kernel)) rfl
theorem wr_1186 : Cond.methodLink "HeelsInLaw" 67 ({ cls := "HeelsInModel", name := "pull", desc := "(I)I" } : MethodName) ∈ hh_ws := hh_in (List.mem_of_getElem? (i := 1295) (by decide +kernel)) rfl
theorem wr_1194 : Cond.methodLink "HeelsInLaw" 71 ({ cls := "HeelsInModel", name := "doing", desc := "(III)I" } : MethodName) ∈ hh_ws := hh_in (List.mem_of_getElem? (i := 1303) (by decide +kernel)) rfl
theorem wr_1198 : Cond.methodLink "HeelsInLaw" 76 ({ cls := "HeelsInModel", name := "later", desc := "(II)I" } : MethodName) ∈ hh_ws := hh_in (List.mem_of_getElem? (i := 1307) (by decide +kernel)) rfl
theorem wr_1202 : Cond.methodLink "HeelsInLaw" 80 ({ cls := "HeelsInModel", name := "three", desc := "(II)I" } : MethodName) ∈ hh_ws := hh_in (List.mem_of_getElem? (i := 1311) (by decide +kernel)) rfl
theorem wr_1207 : Cond.methodLink "HeelsInLaw" 84 ({ cls := "HeelsInModel", name := "together", desc := "(III)I" } : MethodName) ∈ hh_ws := hh_in (List.mem_of_getElem? (i := 1316) (by decide +kernel)) rfl
theorem wr_1212 : Cond.methodLink "HeelsInLaw" 88 ({ cls := "HeelsInModel", name := "stands", desc := "(II)I" } : MethodName) ∈ hh_ws := hh_in (List.mem_of_getElem? (i := 1321) (by decide +kernel)) rfl
theorem wr_1223 : Cond.methodLink "HeelsInLaw" 92 ({ cls := "HeelsInModel", name := "chosen", desc := "(III)I" } : MethodName) ∈ hh_ws := hh_in (List.mem_of_getElem? (i := 1332) (by decide +kernel)) rfl
theorem wr_1229 : Cond.methodLink "HeelsInLaw" 97 ({ cls := "HeelsInModel", name := "game", desc := "(IIII)I" } : MethodName) ∈ hh_ws := hh_in (List.mem_of_getElem? (i := 1338) (by decide +kernel)) rfl
theorem wr_1251 : Cond.methodLink "HeelsInLaw" 102 ({ cls := "HeelsInModel", name := "left", desc := "(IIIIII)I" } : MethodName) ∈ hh_ws := hh_in (List.mem_of_getElem? (i := 1360) (by decide +kernel)) rfl
theorem wr_1257 : Cond.methodLink "HeelsInLaw" 106 ({ cls := "HeelsInModel", name := "read", desc := "(I)I" } : MethodName) ∈ hh_ws := hh_in (List.mem_of_getElem? (i := 1366) (by decide +kernel)) rfl
theorem wr_1261 : Cond.methodLink "HeelsInLaw" 110 ({ cls := "HeelsInModel", name := "image", desc := "(I)I" } : MethodName) ∈ hh_ws := hh_in (List.mem_of_getElem? (i := 1370) (by decide +kernel)) rfl
theorem wr_1265 : Cond.methodLink "HeelsInLaw" 114 ({ cls := "HeelsInModel", name := "restore", desc := "(I)I" } : MethodName) ∈ hh_ws := hh_in (List.mem_of_getElem? (i := 1374) (by decide +kernel)) rfl
theorem wr_1269 : Cond.methodLink "HeelsInLaw" 118 ({ cls := "HeelsInModel", name := "kind", desc := "(II)I" } : MethodName) ∈ hh_ws := hh_in (List.mem_of_getElem? (i := 1378) (by decide +kernel)) rfl
theorem wr_1281 : Cond.methodLink "HeelsInLaw" 122 ({ cls := "HeelsInModel", name := "as", desc := "(III)I" } : MethodName) ∈ hh_ws := hh_in (List.mem_of_getElem? (i := 1390) (by decide +kernel)) rfl
theorem wr_1289 : Cond.methodLink "HeelsInLaw" 126 ({ cls := "HeelsInModel", name := "ask", desc := "(III)I" } : MethodName) ∈ hh_ws := hh_in (List.mem_of_getElem? (i := 1398) (by decide +kernel)) rfl
theorem wr_1325 : Cond.methodLink "HeelsInLaw" 130 ({ cls := "HeelsInModel", name := "trace", desc := "(I)I" } : MethodName) ∈ hh_ws := hh_in (List.mem_of_getElem? (i := 1434) (by decide +kernel)) rfl
theorem wr_1329 : Cond.methodLink "HeelsInLaw" 134 ({ cls := "HeelsInModel", name := "count", desc := "(I)I" } : MethodName) ∈ hh_ws := hh_in (List.mem_of_getElem? (i := 1438) (by decide +kernel)) rfl
theorem wr_1333 : Cond.methodLink "HeelsInLaw" 138 ({ cls := "HeelsInModel", name := "status", desc := "()I" } : MethodName) ∈ hh_ws := hh_in (List.mem_of_getElem? (i := 1442) (by decide +kernel)) rfl
theorem wr_1337 : Cond.constantLong "HeelsInLaw" 32 (Int64.ofInt (4294967295)) ∈ hh_ws := hh_in (List.mem_of_getElem? (i := 1446) (by decide +kernel)) rfl
