/-! the law's words -/
theorem wr_19 : Cond.classLink "HeelsInLaw" 7 "HeelsIn" ∈ hh_ws := hh_in (List.mem_of_getElem? (i := 128) (by decide +kernel)) rfl
theorem wr_20 : Cond.instantiable "HeelsIn" 14 ∈ hh_ws := hh_in (List.mem_of_getElem? (i := 129) (by decide +kernel)) rfl
theorem wr_21 : Cond.methodLink "HeelsInLaw" 9 ({ cls := "HeelsIn", name := "<init>", desc := "()V" } : MethodName) ∈ hh_ws := hh_in (List.mem_of_getElem? (i := 130) (by decide +kernel)) rfl
theorem wr_329 : Cond.methodLink "HeelsInLaw" 13 ({ cls := "HeelsIn", name := "sheet", desc := "(III)I" } : MethodName) ∈ hh_ws := hh_in (List.mem_of_getElem? (i := 438) (by decide +kernel)) rfl
theorem wr_350 : Cond.methodLink "HeelsInLaw" 18 ({ cls := "HeelsIn", name := "set", desc := "(III)I" } : MethodName) ∈ hh_ws := hh_in (List.mem_of_getElem? (i := 459) (by decide +kernel)) rfl
theorem wr_362 : Cond.methodLink "HeelsInLaw" 22 ({ cls := "HeelsIn", name := "copy", desc := "(IIIII)I" } : MethodName) ∈ hh_ws := hh_in (List.mem_of_getElem? (i := 471) (by decide +kernel)) rfl
theorem wr_369 : Cond.methodLink "HeelsInLaw" 27 ({ cls := "HeelsIn", name := "drop", desc := "(I)I" } : MethodName) ∈ hh_ws := hh_in (List.mem_of_getElem? (i := 478) (by decide +kernel)) rfl
theorem wr_373 : Cond.methodLink "HeelsInLaw" 34 ({ cls := "HeelsIn", name := "feed", desc := "(JI)I" } : MethodName) ∈ hh_ws := hh_in (List.mem_of_getElem? (i := 482) (by decide +kernel)) rfl
theorem wr_382 : Cond.methodLink "HeelsInLaw" 39 ({ cls := "HeelsIn", name := "match", desc := "()I" } : MethodName) ∈ hh_ws := hh_in (List.mem_of_getElem? (i := 491) (by decide +kernel)) rfl
theorem wr_530 : Cond.methodLink "HeelsInLaw" 44 ({ cls := "HeelsIn", name := "fault", desc := "()I" } : MethodName) ∈ hh_ws := hh_in (List.mem_of_getElem? (i := 639) (by decide +kernel)) rfl
theorem wr_534 : Cond.methodLink "HeelsInLaw" 48 ({ cls := "HeelsIn", name := "puller", desc := "(III)I" } : MethodName) ∈ hh_ws := hh_in (List.mem_of_getElem? (i := 643) (by decide +kernel)) rfl
theorem wr_542 : Cond.methodLink "HeelsInLaw" 52 ({ cls := "HeelsIn", name := "begin", desc := "(I)I" } : MethodName) ∈ hh_ws := hh_in (List.mem_of_getElem? (i := 651) (by decide +kernel)) rfl
theorem wr_552 : Cond.methodLink "HeelsInLaw" 56 ({ cls := "HeelsIn", name := "go", desc := "(I)I" } : MethodName) ∈ hh_ws := hh_in (List.mem_of_getElem? (i := 661) (by decide +kernel)) rfl
theorem wr_607 : Cond.methodLink "HeelsInLaw" 60 ({ cls := "HeelsIn", name := "told", desc := "(III)I" } : MethodName) ∈ hh_ws := hh_in (List.mem_of_getElem? (i := 716) (by decide +kernel)) rfl
theorem wr_618 : Cond.methodLink "HeelsInLaw" 64 ({ cls := "HeelsIn", name := "pull", desc := "(I)I" } : MethodName) ∈ hh_ws := hh_in (List.mem_of_getElem? (i := 727) (by decide +kernel)) rfl
theorem wr_626 : Cond.methodLink "HeelsInLaw" 68 ({ cls := "HeelsIn", name := "doing", desc := "(III)I" } : MethodName) ∈ hh_ws := hh_in (List.mem_of_getElem? (i := 735) (by decide +kernel)) rfl
theorem wr_631 : Cond.methodLink "HeelsInLaw" 72 ({ cls := "HeelsIn", name := "later", desc := "(II)I" } : MethodName) ∈ hh_ws := hh_in (List.mem_of_getElem? (i := 740) (by decide +kernel)) rfl
theorem wr_643 : Cond.methodLink "HeelsInLaw" 77 ({ cls := "HeelsIn", name := "three", desc := "(II)I" } : MethodName) ∈ hh_ws := hh_in (List.mem_of_getElem? (i := 752) (by decide +kernel)) rfl
theorem wr_660 : Cond.methodLink "HeelsInLaw" 81 ({ cls := "HeelsIn", name := "together", desc := "(III)I" } : MethodName) ∈ hh_ws := hh_in (List.mem_of_getElem? (i := 769) (by decide +kernel)) rfl
theorem wr_676 : Cond.methodLink "HeelsInLaw" 85 ({ cls := "HeelsIn", name := "stands", desc := "(II)I" } : MethodName) ∈ hh_ws := hh_in (List.mem_of_getElem? (i := 785) (by decide +kernel)) rfl
theorem wr_705 : Cond.methodLink "HeelsInLaw" 89 ({ cls := "HeelsIn", name := "chosen", desc := "(III)I" } : MethodName) ∈ hh_ws := hh_in (List.mem_of_getElem? (i := 814) (by decide +kernel)) rfl
theorem wr_716 : Cond.methodLink "HeelsInLaw" 93 ({ cls := "HeelsIn", name := "game", desc := "(IIII)I" } : MethodName) ∈ hh_ws := hh_in (List.mem_of_getElem? (i := 825) (by decide +kernel)) rfl
theorem wr_759 : Cond.methodLink "HeelsInLaw" 98 ({ cls := "HeelsIn", name := "left", desc := "(IIIIII)I" } : MethodName) ∈ hh_ws := hh_in (List.mem_of_getElem? (i := 868) (by decide +kernel)) rfl
theorem wr_771 : Cond.methodLink "HeelsInLaw" 103 ({ cls := "HeelsIn", name := "read", desc := "(I)I" } : MethodName) ∈ hh_ws := hh_in (List.mem_of_getElem? (i := 880) (by decide +kernel)) rfl
theorem wr_785 : Cond.methodLink "HeelsInLaw" 107 ({ cls := "HeelsIn", name := "image", desc := "(I)I" } : MethodName) ∈ hh_ws := hh_in (List.mem_of_getElem? (i := 894) (by decide +kernel)) rfl
theorem wr_794 : Cond.methodLink "HeelsInLaw" 111 ({ cls := "HeelsIn", name := "restore", desc := "(I)I" } : MethodName) ∈ hh_ws := hh_in (List.mem_of_getElem? (i := 903) (by decide +kernel)) rfl
theorem wr_798 : Cond.methodLink "HeelsInLaw" 115 ({ cls := "HeelsIn", name := "kind", desc := "(II)I" } : MethodName) ∈ hh_ws := hh_in (List.mem_of_getElem? (i := 907) (by decide +kernel)) rfl
theorem wr_810 : Cond.methodLink "HeelsInLaw" 119 ({ cls := "HeelsIn", name := "as", desc := "(III)I" } : MethodName) ∈ hh_ws := hh_in (List.mem_of_getElem? (i := 919) (by decide +kernel)) rfl
theorem wr_817 : Cond.methodLink "HeelsInLaw" 123 ({ cls := "HeelsIn", name := "ask", desc := "(III)I" } : MethodName) ∈ hh_ws := hh_in (List.mem_of_getElem? (i := 926) (by decide +kernel)) rfl
theorem wr_873 : Cond.methodLink "HeelsInLaw" 127 ({ cls := "HeelsIn", name := "trace", desc := "(I)I" } : MethodName) ∈ hh_ws := hh_in (List.mem_of_getElem? (i := 982) (by decide +kernel)) rfl
theorem wr_877 : Cond.methodLink "HeelsInLaw" 131 ({ cls := "HeelsIn", name := "count", desc := "(I)I" } : MethodName) ∈ hh_ws := hh_in (List.mem_of_getElem? (i := 986) (by decide +kernel)) rfl
theorem wr_885 : Cond.methodLink "HeelsInLaw" 135 ({ cls := "HeelsIn", name := "status", desc := "()I" } : MethodName) ∈ hh_ws := hh_in (List.mem_of_getElem? (i := 994) (by decide +kernel)) rfl
theorem wr_889 : Cond.classLink "HeelsInLaw" 10 "HeelsInModel" ∈ hh_ws := hh_in (List.mem_of_getElem? (i := 998) (by decide +kernel)) rfl
theorem wr_890 : Cond.instantiable "HeelsInModel" 32 ∈ hh_ws := hh_in (List.mem_of_getElem? (i := 999) (by decide +kernel)) rfl
theorem wr_891 : Cond.methodLink "HeelsInLaw" 12 ({ cls := "HeelsInModel", name := "<init>", desc := "()V" } : MethodName) ∈ hh_ws := hh_in (List.mem_of_getElem? (i := 1000) (by decide +kernel)) rfl
theorem wr_993 : Cond.methodLink "HeelsInLaw" 17 ({ cls := "HeelsInModel", name := "sheet", desc := "(III)I" } : MethodName) ∈ hh_ws := hh_in (List.mem_of_getElem? (i := 1102) (by decide +kernel)) rfl
theorem wr_1011 : Cond.methodLink "HeelsInLaw" 21 ({ cls := "HeelsInModel", name := "set", desc := "(III)I" } : MethodName) ∈ hh_ws := hh_in (List.mem_of_getElem? (i := 1120) (by decide +kernel)) rfl
theorem wr_1015 : Cond.methodLink "HeelsInLaw" 26 ({ cls := "HeelsInModel", name := "copy", desc := "(IIIII)I" } : MethodName) ∈ hh_ws := hh_in (List.mem_of_getElem? (i := 1124) (by decide +kernel)) rfl
theorem wr_1019 : Cond.methodLink "HeelsInLaw" 31 ({ cls := "HeelsInModel", name := "drop", desc := "(I)I" } : MethodName) ∈ hh_ws := hh_in (List.mem_of_getElem? (i := 1128) (by decide +kernel)) rfl
theorem wr_1023 : Cond.methodLink "HeelsInLaw" 38 ({ cls := "HeelsInModel", name := "feed", desc := "(JI)I" } : MethodName) ∈ hh_ws := hh_in (List.mem_of_getElem? (i := 1132) (by decide +kernel)) rfl
theorem wr_1030 : Cond.methodLink "HeelsInLaw" 43 ({ cls := "HeelsInModel", name := "match", desc := "()I" } : MethodName) ∈ hh_ws := hh_in (List.mem_of_getElem? (i := 1139) (by decide +kernel)) rfl
theorem wr_1117 : Cond.methodLink "HeelsInLaw" 47 ({ cls := "HeelsInModel", name := "fault", desc := "()I" } : MethodName) ∈ hh_ws := hh_in (List.mem_of_getElem? (i := 1226) (by decide +kernel)) rfl
theorem wr_1121 : Cond.methodLink "HeelsInLaw" 51 ({ cls := "HeelsInModel", name := "puller", desc := "(III)I" } : MethodName) ∈ hh_ws := hh_in (List.mem_of_getElem? (i := 1230) (by decide +kernel)) rfl
theorem wr_1137 : Cond.methodLink "HeelsInLaw" 55 ({ cls := "HeelsInModel", name := "begin", desc := "(I)I" } : MethodName) ∈ hh_ws := hh_in (List.mem_of_getElem? (i := 1246) (by decide +kernel)) rfl
theorem wr_1146 : Cond.methodLink "HeelsInLaw" 59 ({ cls := "HeelsInModel", name := "go", desc := "(I)I" } : MethodName) ∈ hh_ws := hh_in (List.mem_of_getElem? (i := 1255) (by decide +kernel)) rfl
theorem wr_1182 : Cond.methodLink "HeelsInLaw" 63 ({ cls := "HeelsInModel", name := "told", desc := "(III)I" } : MethodName) ∈ hh_ws := hh_in (List.mem_of_getElem? (i := 1291) (by decide +kernel)) rfl
theorem wr_1187 : Cond.methodLink "HeelsInLaw" 67 ({ cls := "HeelsInModel", name := "pull", desc := "(I)I" } : MethodName) ∈ hh_ws := hh_in (List.mem_of_getElem? (i := 1296) (by decide +kernel)) rfl
theorem wr_1195 : Cond.methodLink "HeelsInLaw" 71 ({ cls := "HeelsInModel", name := "doing", desc := "(III)I" } : MethodName) ∈ hh_ws := hh_in (List.mem_of_getElem? (i := 1304) (by decide +kernel)) rfl
theorem wr_1199 : Cond.methodLink "HeelsInLaw" 76 ({ cls := "HeelsInModel", name := "later", desc := "(II)I" } : MethodName) ∈ hh_ws := hh_in (List.mem_of_getElem? (i := 1308) (by decide +kernel)) rfl
theorem wr_1203 : Cond.methodLink "HeelsInLaw" 80 ({ cls := "HeelsInModel", name := "three", desc := "(II)I" } : MethodName) ∈ hh_ws := hh_in (List.mem_of_getElem? (i := 1312) (by decide +kernel)) rfl
theorem wr_1208 : Cond.methodLink "HeelsInLaw" 84 ({ cls := "HeelsInModel", name := "together", desc := "(III)I" } : MethodName) ∈ hh_ws := hh_in (List.mem_of_getElem? (i := 1317) (by decide +kernel)) rfl
theorem wr_1213 : Cond.methodLink "HeelsInLaw" 88 ({ cls := "HeelsInModel", name := "stands", desc := "(II)I" } : MethodName) ∈ hh_ws := hh_in (List.mem_of_getElem? (i := 1322) (by decide +kernel)) rfl
theorem wr_1224 : Cond.methodLink "HeelsInLaw" 92 ({ cls := "HeelsInModel", name := "chosen", desc := "(III)I" } : MethodName) ∈ hh_ws := hh_in (List.mem_of_getElem? (i := 1333) (by decide +kernel)) rfl
theorem wr_1230 : Cond.methodLink "HeelsInLaw" 97 ({ cls := "HeelsInModel", name := "game", desc := "(IIII)I" } : MethodName) ∈ hh_ws := hh_in (List.mem_of_getElem? (i := 1339) (by decide +kernel)) rfl
theorem wr_1252 : Cond.methodLink "HeelsInLaw" 102 ({ cls := "HeelsInModel", name := "left", desc := "(IIIIII)I" } : MethodName) ∈ hh_ws := hh_in (List.mem_of_getElem? (i := 1361) (by decide +kernel)) rfl
theorem wr_1258 : Cond.methodLink "HeelsInLaw" 106 ({ cls := "HeelsInModel", name := "read", desc := "(I)I" } : MethodName) ∈ hh_ws := hh_in (List.mem_of_getElem? (i := 1367) (by decide +kernel)) rfl
theorem wr_1262 : Cond.methodLink "HeelsInLaw" 110 ({ cls := "HeelsInModel", name := "image", desc := "(I)I" } : MethodName) ∈ hh_ws := hh_in (List.mem_of_getElem? (i := 1371) (by decide +kernel)) rfl
theorem wr_1266 : Cond.methodLink "HeelsInLaw" 114 ({ cls := "HeelsInModel", name := "restore", desc := "(I)I" } : MethodName) ∈ hh_ws := hh_in (List.mem_of_getElem? (i := 1375) (by decide +kernel)) rfl
theorem wr_1270 : Cond.methodLink "HeelsInLaw" 118 ({ cls := "HeelsInModel", name := "kind", desc := "(II)I" } : MethodName) ∈ hh_ws := hh_in (List.mem_of_getElem? (i := 1379) (by decide +kernel)) rfl
theorem wr_1282 : Cond.methodLink "HeelsInLaw" 122 ({ cls := "HeelsInModel", name := "as", desc := "(III)I" } : MethodName) ∈ hh_ws := hh_in (List.mem_of_getElem? (i := 1391) (by decide +kernel)) rfl
theorem wr_1290 : Cond.methodLink "HeelsInLaw" 126 ({ cls := "HeelsInModel", name := "ask", desc := "(III)I" } : MethodName) ∈ hh_ws := hh_in (List.mem_of_getElem? (i := 1399) (by decide +kernel)) rfl
theorem wr_1326 : Cond.methodLink "HeelsInLaw" 130 ({ cls := "HeelsInModel", name := "trace", desc := "(I)I" } : MethodName) ∈ hh_ws := hh_in (List.mem_of_getElem? (i := 1435) (by decide +kernel)) rfl
theorem wr_1330 : Cond.methodLink "HeelsInLaw" 134 ({ cls := "HeelsInModel", name := "count", desc := "(I)I" } : MethodName) ∈ hh_ws := hh_in (List.mem_of_getElem? (i := 1439) (by decide +kernel)) rfl
theorem wr_1334 : Cond.methodLink "HeelsInLaw" 138 ({ cls := "HeelsInModel", name := "status", desc := "()I" } : MethodName) ∈ hh_ws := hh_in (List.mem_of_getElem? (i := 1443) (by decide +kernel)) rfl
theorem wr_1338 : Cond.constantLong "HeelsInLaw" 32 (Int64.ofInt (4294967295)) ∈ hh_ws := hh_in (List.mem_of_getElem? (i := 1447) (by decide +kernel)) rfl
