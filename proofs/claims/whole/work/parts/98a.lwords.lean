/-! the law's words -/
theorem wr_19 : Cond.classLink "HeelsInLaw" 7 "HeelsIn" ∈ hh_ws := hh_in (List.mem_of_getElem? (i := 127) (by decide +kernel)) rfl
theorem wr_20 : Cond.instantiable "HeelsIn" 14 ∈ hh_ws := hh_in (List.mem_of_getElem? (i := 128) (by decide +kernel)) rfl
theorem wr_21 : Cond.methodLink "HeelsInLaw" 9 ({ cls := "HeelsIn", name := "<init>", desc := "()V" } : MethodName) ∈ hh_ws := hh_in (List.mem_of_getElem? (i := 129) (by decide +kernel)) rfl
theorem wr_329 : Cond.methodLink "HeelsInLaw" 13 ({ cls := "HeelsIn", name := "sheet", desc := "(III)I" } : MethodName) ∈ hh_ws := hh_in (List.mem_of_getElem? (i := 437) (by decide +kernel)) rfl
theorem wr_350 : Cond.methodLink "HeelsInLaw" 18 ({ cls := "HeelsIn", name := "set", desc := "(III)I" } : MethodName) ∈ hh_ws := hh_in (List.mem_of_getElem? (i := 458) (by decide +kernel)) rfl
theorem wr_362 : Cond.methodLink "HeelsInLaw" 22 ({ cls := "HeelsIn", name := "copy", desc := "(IIIII)I" } : MethodName) ∈ hh_ws := hh_in (List.mem_of_getElem? (i := 470) (by decide +kernel)) rfl
theorem wr_369 : Cond.methodLink "HeelsInLaw" 27 ({ cls := "HeelsIn", name := "drop", desc := "(I)I" } : MethodName) ∈ hh_ws := hh_in (List.mem_of_getElem? (i := 477) (by decide +kernel)) rfl
theorem wr_373 : Cond.methodLink "HeelsInLaw" 34 ({ cls := "HeelsIn", name := "feed", desc := "(JI)I" } : MethodName) ∈ hh_ws := hh_in (List.mem_of_getElem? (i := 481) (by decide +kernel)) rfl
theorem wr_382 : Cond.methodLink "HeelsInLaw" 39 ({ cls := "HeelsIn", name := "match", desc := "()I" } : MethodName) ∈ hh_ws := hh_in (List.mem_of_getElem? (i := 490) (by decide +kernel)) rfl
theorem wr_530 : Cond.methodLink "HeelsInLaw" 44 ({ cls := "HeelsIn", name := "fault", desc := "()I" } : MethodName) ∈ hh_ws := hh_in (List.mem_of_getElem? (i := 638) (by decide +kernel)) rfl
theorem wr_534 : Cond.methodLink "HeelsInLaw" 48 ({ cls := "HeelsIn", name := "puller", desc := "(III)I" } : MethodName) ∈ hh_ws := hh_in (List.mem_of_getElem? (i := 642) (by decide +kernel)) rfl
theorem wr_542 : Cond.methodLink "HeelsInLaw" 52 ({ cls := "HeelsIn", name := "begin", desc := "(I)I" } : MethodName) ∈ hh_ws := hh_in (List.mem_of_getElem? (i := 650) (by decide +kernel)) rfl
theorem wr_552 : Cond.methodLink "HeelsInLaw" 56 ({ cls := "HeelsIn", name := "go", desc := "(I)I" } : MethodName) ∈ hh_ws := hh_in (List.mem_of_getElem? (i := 660) (by decide +kernel)) rfl
theorem wr_607 : Cond.methodLink "HeelsInLaw" 60 ({ cls := "HeelsIn", name := "told", desc := "(III)I" } : MethodName) ∈ hh_ws := hh_in (List.mem_of_getElem? (i := 715) (by decide +kernel)) rfl
theorem wr_618 : Cond.methodLink "HeelsInLaw" 64 ({ cls := "HeelsIn", name := "pull", desc := "(I)I" } : MethodName) ∈ hh_ws := hh_in (List.mem_of_getElem? (i := 726) (by decide +kernel)) rfl
theorem wr_626 : Cond.methodLink "HeelsInLaw" 68 ({ cls := "HeelsIn", name := "doing", desc := "(III)I" } : MethodName) ∈ hh_ws := hh_in (List.mem_of_getElem? (i := 734) (by decide +kernel)) rfl
theorem wr_631 : Cond.methodLink "HeelsInLaw" 72 ({ cls := "HeelsIn", name := "later", desc := "(II)I" } : MethodName) ∈ hh_ws := hh_in (List.mem_of_getElem? (i := 739) (by decide +kernel)) rfl
theorem wr_643 : Cond.methodLink "HeelsInLaw" 77 ({ cls := "HeelsIn", name := "three", desc := "(II)I" } : MethodName) ∈ hh_ws := hh_in (List.mem_of_getElem? (i := 751) (by decide +kernel)) rfl
theorem wr_660 : Cond.methodLink "HeelsInLaw" 81 ({ cls := "HeelsIn", name := "together", desc := "(III)I" } : MethodName) ∈ hh_ws := hh_in (List.mem_of_getElem? (i := 768) (by decide +kernel)) rfl
theorem wr_676 : Cond.methodLink "HeelsInLaw" 85 ({ cls := "HeelsIn", name := "stands", desc := "(II)I" } : MethodName) ∈ hh_ws := hh_in (List.mem_of_getElem? (i := 784) (by decide +kernel)) rfl
theorem wr_705 : Cond.methodLink "HeelsInLaw" 89 ({ cls := "HeelsIn", name := "chosen", desc := "(III)I" } : MethodName) ∈ hh_ws := hh_in (List.mem_of_getElem? (i := 813) (by decide +kernel)) rfl
theorem wr_716 : Cond.methodLink "HeelsInLaw" 93 ({ cls := "HeelsIn", name := "game", desc := "(IIII)I" } : MethodName) ∈ hh_ws := hh_in (List.mem_of_getElem? (i := 824) (by decide +kernel)) rfl
theorem wr_756 : Cond.methodLink "HeelsInLaw" 98 ({ cls := "HeelsIn", name := "left", desc := "(IIIIII)I" } : MethodName) ∈ hh_ws := hh_in (List.mem_of_getElem? (i := 864) (by decide +kernel)) rfl
theorem wr_768 : Cond.methodLink "HeelsInLaw" 103 ({ cls := "HeelsIn", name := "read", desc := "(I)I" } : MethodName) ∈ hh_ws := hh_in (List.mem_of_getElem? (i := 876) (by decide +kernel)) rfl
theorem wr_782 : Cond.methodLink "HeelsInLaw" 107 ({ cls := "HeelsIn", name := "image", desc := "(I)I" } : MethodName) ∈ hh_ws := hh_in (List.mem_of_getElem? (i := 890) (by decide +kernel)) rfl
theorem wr_791 : Cond.methodLink "HeelsInLaw" 111 ({ cls := "HeelsIn", name := "restore", desc := "(I)I" } : MethodName) ∈ hh_ws := hh_in (List.mem_of_getElem? (i := 899) (by decide +kernel)) rfl
theorem wr_795 : Cond.methodLink "HeelsInLaw" 115 ({ cls := "HeelsIn", name := "kind", desc := "(II)I" } : MethodName) ∈ hh_ws := hh_in (List.mem_of_getElem? (i := 903) (by decide +kernel)) rfl
theorem wr_807 : Cond.methodLink "HeelsInLaw" 119 ({ cls := "HeelsIn", name := "as", desc := "(III)I" } : MethodName) ∈ hh_ws := hh_in (List.mem_of_getElem? (i := 915) (by decide +kernel)) rfl
theorem wr_814 : Cond.methodLink "HeelsInLaw" 123 ({ cls := "HeelsIn", name := "ask", desc := "(III)I" } : MethodName) ∈ hh_ws := hh_in (List.mem_of_getElem? (i := 922) (by decide +kernel)) rfl
theorem wr_870 : Cond.methodLink "HeelsInLaw" 127 ({ cls := "HeelsIn", name := "trace", desc := "(I)I" } : MethodName) ∈ hh_ws := hh_in (List.mem_of_getElem? (i := 978) (by decide +kernel)) rfl
theorem wr_874 : Cond.methodLink "HeelsInLaw" 131 ({ cls := "HeelsIn", name := "count", desc := "(I)I" } : MethodName) ∈ hh_ws := hh_in (List.mem_of_getElem? (i := 982) (by decide +kernel)) rfl
theorem wr_882 : Cond.methodLink "HeelsInLaw" 135 ({ cls := "HeelsIn", name := "status", desc := "()I" } : MethodName) ∈ hh_ws := hh_in (List.mem_of_getElem? (i := 990) (by decide +kernel)) rfl
theorem wr_886 : Cond.classLink "HeelsInLaw" 10 "HeelsInModel" ∈ hh_ws := hh_in (List.mem_of_getElem? (i := 994) (by decide +kernel)) rfl
theorem wr_887 : Cond.instantiable "HeelsInModel" 32 ∈ hh_ws := hh_in (List.mem_of_getElem? (i := 995) (by decide +kernel)) rfl
theorem wr_888 : Cond.methodLink "HeelsInLaw" 12 ({ cls := "HeelsInModel", name := "<init>", desc := "()V" } : MethodName) ∈ hh_ws := hh_in (List.mem_of_getElem? (i := 996) (by decide +kernel)) rfl
theorem wr_990 : Cond.methodLink "HeelsInLaw" 17 ({ cls := "HeelsInModel", name := "sheet", desc := "(III)I" } : MethodName) ∈ hh_ws := hh_in (List.mem_of_getElem? (i := 1098) (by decide +kernel)) rfl
theorem wr_1008 : Cond.methodLink "HeelsInLaw" 21 ({ cls := "HeelsInModel", name := "set", desc := "(III)I" } : MethodName) ∈ hh_ws := hh_in (List.mem_of_getElem? (i := 1116) (by decide +kernel)) rfl
theorem wr_1012 : Cond.methodLink "HeelsInLaw" 26 ({ cls := "HeelsInModel", name := "copy", desc := "(IIIII)I" } : MethodName) ∈ hh_ws := hh_in (List.mem_of_getElem? (i := 1120) (by decide +kernel)) rfl
theorem wr_1016 : Cond.methodLink "HeelsInLaw" 31 ({ cls := "HeelsInModel", name := "drop", desc := "(I)I" } : MethodName) ∈ hh_ws := hh_in (List.mem_of_getElem? (i := 1124) (by decide +kernel)) rfl
theorem wr_1020 : Cond.methodLink "HeelsInLaw" 38 ({ cls := "HeelsInModel", name := "feed", desc := "(JI)I" } : MethodName) ∈ hh_ws := hh_in (List.mem_of_getElem? (i := 1128) (by decide +kernel)) rfl
theorem wr_1027 : Cond.methodLink "HeelsInLaw" 43 ({ cls := "HeelsInModel", name := "match", desc := "()I" } : MethodName) ∈ hh_ws := hh_in (List.mem_of_getElem? (i := 1135) (by decide +kernel)) rfl
theorem wr_1114 : Cond.methodLink "HeelsInLaw" 47 ({ cls := "HeelsInModel", name := "fault", desc := "()I" } : MethodName) ∈ hh_ws := hh_in (List.mem_of_getElem? (i := 1222) (by decide +kernel)) rfl
theorem wr_1118 : Cond.methodLink "HeelsInLaw" 51 ({ cls := "HeelsInModel", name := "puller", desc := "(III)I" } : MethodName) ∈ hh_ws := hh_in (List.mem_of_getElem? (i := 1226) (by decide +kernel)) rfl
theorem wr_1134 : Cond.methodLink "HeelsInLaw" 55 ({ cls := "HeelsInModel", name := "begin", desc := "(I)I" } : MethodName) ∈ hh_ws := hh_in (List.mem_of_getElem? (i := 1242) (by decide +kernel)) rfl
theorem wr_1143 : Cond.methodLink "HeelsInLaw" 59 ({ cls := "HeelsInModel", name := "go", desc := "(I)I" } : MethodName) ∈ hh_ws := hh_in (List.mem_of_getElem? (i := 1251) (by decide +kernel)) rfl
theorem wr_1179 : Cond.methodLink "HeelsInLaw" 63 ({ cls := "HeelsInModel", name := "told", desc := "(III)I" } : MethodName) ∈ hh_ws := hh_in (List.mem_of_getElem? (i := 1287) (by decide +kernel)) rfl
theorem wr_1184 : Cond.methodLink "HeelsInLaw" 67 ({ cls := "HeelsInModel", name := "pull", desc := "(I)I" } : MethodName) ∈ hh_ws := hh_in (List.mem_of_getElem? (i := 1292) (by decide +kernel)) rfl
theorem wr_1192 : Cond.methodLink "HeelsInLaw" 71 ({ cls := "HeelsInModel", name := "doing", desc := "(III)I" } : MethodName) ∈ hh_ws := hh_in (List.mem_of_getElem? (i := 1300) (by decide +kernel)) rfl
theorem wr_1196 : Cond.methodLink "HeelsInLaw" 76 ({ cls := "HeelsInModel", name := "later", desc := "(II)I" } : MethodName) ∈ hh_ws := hh_in (List.mem_of_getElem? (i := 1304) (by decide +kernel)) rfl
theorem wr_1200 : Cond.methodLink "HeelsInLaw" 80 ({ cls := "HeelsInModel", name := "three", desc := "(II)I" } : MethodName) ∈ hh_ws := hh_in (List.mem_of_getElem? (i := 1308) (by decide +kernel)) rfl
theorem wr_1205 : Cond.methodLink "HeelsInLaw" 84 ({ cls := "HeelsInModel", name := "together", desc := "(III)I" } : MethodName) ∈ hh_ws := hh_in (List.mem_of_getElem? (i := 1313) (by decide +kernel)) rfl
theorem wr_1210 : Cond.methodLink "HeelsInLaw" 88 ({ cls := "HeelsInModel", name := "stands", desc := "(II)I" } : MethodName) ∈ hh_ws := hh_in (List.mem_of_getElem? (i := 1318) (by decide +kernel)) rfl
theorem wr_1221 : Cond.methodLink "HeelsInLaw" 92 ({ cls := "HeelsInModel", name := "chosen", desc := "(III)I" } : MethodName) ∈ hh_ws := hh_in (List.mem_of_getElem? (i := 1329) (by decide +kernel)) rfl
theorem wr_1227 : Cond.methodLink "HeelsInLaw" 97 ({ cls := "HeelsInModel", name := "game", desc := "(IIII)I" } : MethodName) ∈ hh_ws := hh_in (List.mem_of_getElem? (i := 1335) (by decide +kernel)) rfl
theorem wr_1249 : Cond.methodLink "HeelsInLaw" 102 ({ cls := "HeelsInModel", name := "left", desc := "(IIIIII)I" } : MethodName) ∈ hh_ws := hh_in (List.mem_of_getElem? (i := 1357) (by decide +kernel)) rfl
theorem wr_1255 : Cond.methodLink "HeelsInLaw" 106 ({ cls := "HeelsInModel", name := "read", desc := "(I)I" } : MethodName) ∈ hh_ws := hh_in (List.mem_of_getElem? (i := 1363) (by decide +kernel)) rfl
theorem wr_1259 : Cond.methodLink "HeelsInLaw" 110 ({ cls := "HeelsInModel", name := "image", desc := "(I)I" } : MethodName) ∈ hh_ws := hh_in (List.mem_of_getElem? (i := 1367) (by decide +kernel)) rfl
theorem wr_1263 : Cond.methodLink "HeelsInLaw" 114 ({ cls := "HeelsInModel", name := "restore", desc := "(I)I" } : MethodName) ∈ hh_ws := hh_in (List.mem_of_getElem? (i := 1371) (by decide +kernel)) rfl
theorem wr_1267 : Cond.methodLink "HeelsInLaw" 118 ({ cls := "HeelsInModel", name := "kind", desc := "(II)I" } : MethodName) ∈ hh_ws := hh_in (List.mem_of_getElem? (i := 1375) (by decide +kernel)) rfl
theorem wr_1279 : Cond.methodLink "HeelsInLaw" 122 ({ cls := "HeelsInModel", name := "as", desc := "(III)I" } : MethodName) ∈ hh_ws := hh_in (List.mem_of_getElem? (i := 1387) (by decide +kernel)) rfl
theorem wr_1287 : Cond.methodLink "HeelsInLaw" 126 ({ cls := "HeelsInModel", name := "ask", desc := "(III)I" } : MethodName) ∈ hh_ws := hh_in (List.mem_of_getElem? (i := 1395) (by decide +kernel)) rfl
theorem wr_1323 : Cond.methodLink "HeelsInLaw" 130 ({ cls := "HeelsInModel", name := "trace", desc := "(I)I" } : MethodName) ∈ hh_ws := hh_in (List.mem_of_getElem? (i := 1431) (by decide +kernel)) rfl
theorem wr_1327 : Cond.methodLink "HeelsInLaw" 134 ({ cls := "HeelsInModel", name := "count", desc := "(I)I" } : MethodName) ∈ hh_ws := hh_in (List.mem_of_getElem? (i := 1435) (by decide +kernel)) rfl
theorem wr_1331 : Cond.methodLink "HeelsInLaw" 138 ({ cls := "HeelsInModel", name := "status", desc := "()I" } : MethodName) ∈ hh_ws := hh_in (List.mem_of_getElem? (i := 1439) (by decide +kernel)) rfl
theorem wr_1335 : Cond.constantLong "HeelsInLaw" 32 (Int64.ofInt (4294967295)) ∈ hh_ws := hh_in (List.mem_of_getElem? (i := 1443) (by decide +kernel)) rfl
