/-! the layout, as laws -/
theorem lc_0 : hh_cls 0 = 9 := by decide +kernel
theorem lc_22 : hh_cls 22 = 5 := by decide +kernel
theorem lc_730 : hh_cls 730 = 3 := by decide +kernel
theorem lc_902 : hh_cls 902 = 3 := by decide +kernel
theorem lc_1074 : hh_cls 1074 = 8 := by decide +kernel
theorem lc_1447 : hh_cls 1447 = 8 := by decide +kernel
theorem lc_1824 : hh_cls 1824 = 4 := by decide +kernel
theorem lc_2081 : hh_cls 2081 = 0 := by decide +kernel
theorem lc_2135 : hh_cls 2135 = 2 := by decide +kernel
theorem lc_4258 : hh_cls 4258 = 1 := by decide +kernel
theorem lc_5723 : hh_cls 5723 = 10 := by decide +kernel
theorem lr_0 : hh_rf 0 = 14 := by decide +kernel
theorem lt_14 : hh_tag 14 = 3 := by decide +kernel
theorem ll_14 : hh_len 14 = 8 := by decide +kernel
theorem lr_2 : hh_rf 2 = 22 := by decide +kernel
theorem lr_4 : hh_rf 4 = 730 := by decide +kernel
theorem lr_5 : hh_rf 5 = 902 := by decide +kernel
theorem lr_6 : hh_rf 6 = 1074 := by decide +kernel
theorem lr_7 : hh_rf 7 = 1447 := by decide +kernel
theorem lr_8 : hh_rf 8 = 1820 := by decide +kernel
theorem lt_1820 : hh_tag 1820 = 4 := by decide +kernel
theorem ll_1820 : hh_len 1820 = 2 := by decide +kernel
theorem lr_9 : hh_rf 9 = 1822 := by decide +kernel
theorem lt_1822 : hh_tag 1822 = 6 := by decide +kernel
theorem ll_1822 : hh_len 1822 = 2 := by decide +kernel
theorem lr_10 : hh_rf 10 = 1824 := by decide +kernel
theorem lr_11 : hh_rf 11 = 2081 := by decide +kernel
theorem lr_12 : hh_rf 12 = 2135 := by decide +kernel
theorem lr_13 : hh_rf 13 = 4258 := by decide +kernel
theorem lr_22 : hh_rf 22 = 30 := by decide +kernel
theorem lt_30 : hh_tag 30 = 1 := by decide +kernel
theorem ll_30 : hh_len 30 = 700 := by decide +kernel
theorem lr_1824 : hh_rf 1824 = 1825 := by decide +kernel
theorem lt_1825 : hh_tag 1825 = 0 := by decide +kernel
theorem ll_1825 : hh_len 1825 = 256 := by decide +kernel
theorem lr_2081 : hh_rf 2081 = 2086 := by decide +kernel
theorem lt_2086 : hh_tag 2086 = 0 := by decide +kernel
theorem ll_2086 : hh_len 2086 = 16 := by decide +kernel
theorem lr_2082 : hh_rf 2082 = 2102 := by decide +kernel
theorem lt_2102 : hh_tag 2102 = 0 := by decide +kernel
theorem ll_2102 : hh_len 2102 = 16 := by decide +kernel
theorem lr_2083 : hh_rf 2083 = 2118 := by decide +kernel
theorem lt_2118 : hh_tag 2118 = 0 := by decide +kernel
theorem ll_2118 : hh_len 2118 = 17 := by decide +kernel
theorem lr_2135 : hh_rf 2135 = 2137 := by decide +kernel
theorem lt_2137 : hh_tag 2137 = 7 := by decide +kernel
theorem ll_2137 : hh_len 2137 = 21 := by decide +kernel
theorem lr_4263 : hh_rf 4263 = 4265 := by decide +kernel
theorem lt_4265 : hh_tag 4265 = 0 := by decide +kernel
theorem ll_4265 : hh_len 4265 = 16 := by decide +kernel
theorem lr_5725 : hh_rf 5725 = 5755 := by decide +kernel
theorem lt_5755 : hh_tag 5755 = 0 := by decide +kernel
theorem ll_5755 : hh_len 5755 = 8 := by decide +kernel
theorem lr_5726 : hh_rf 5726 = 5763 := by decide +kernel
theorem lt_5763 : hh_tag 5763 = 0 := by decide +kernel
theorem ll_5763 : hh_len 5763 = 8 := by decide +kernel
theorem lr_5727 : hh_rf 5727 = 5771 := by decide +kernel
theorem lt_5771 : hh_tag 5771 = 0 := by decide +kernel
theorem ll_5771 : hh_len 5771 = 320 := by decide +kernel
theorem lr_5728 : hh_rf 5728 = 6091 := by decide +kernel
theorem lt_6091 : hh_tag 6091 = 0 := by decide +kernel
theorem ll_6091 : hh_len 6091 = 136 := by decide +kernel
theorem lr_5729 : hh_rf 5729 = 6227 := by decide +kernel
theorem lt_6227 : hh_tag 6227 = 0 := by decide +kernel
theorem ll_6227 : hh_len 6227 = 136 := by decide +kernel
theorem lr_5731 : hh_rf 5731 = 6363 := by decide +kernel
theorem lt_6363 : hh_tag 6363 = 0 := by decide +kernel
theorem ll_6363 : hh_len 6363 = 370 := by decide +kernel
theorem lr_5732 : hh_rf 5732 = 6733 := by decide +kernel
theorem lt_6733 : hh_tag 6733 = 0 := by decide +kernel
theorem ll_6733 : hh_len 6733 = 700 := by decide +kernel
theorem lr_5743 : hh_rf 5743 = 7433 := by decide +kernel
theorem lt_7433 : hh_tag 7433 = 0 := by decide +kernel
theorem ll_7433 : hh_len 7433 = 2 := by decide +kernel
theorem lr_5744 : hh_rf 5744 = 7435 := by decide +kernel
theorem lt_7435 : hh_tag 7435 = 0 := by decide +kernel
theorem ll_7435 : hh_len 7435 = 370 := by decide +kernel
theorem lr_5745 : hh_rf 5745 = 7805 := by decide +kernel
theorem lt_7805 : hh_tag 7805 = 0 := by decide +kernel
theorem ll_7805 : hh_len 7805 = 4 := by decide +kernel
theorem lr_5746 : hh_rf 5746 = 7809 := by decide +kernel
theorem lt_7809 : hh_tag 7809 = 0 := by decide +kernel
theorem ll_7809 : hh_len 7809 = 256 := by decide +kernel
theorem lr_5747 : hh_rf 5747 = 8065 := by decide +kernel
theorem lt_8065 : hh_tag 8065 = 0 := by decide +kernel
theorem ll_8065 : hh_len 8065 = 100 := by decide +kernel
theorem lr_5748 : hh_rf 5748 = 8165 := by decide +kernel
theorem lt_8165 : hh_tag 8165 = 0 := by decide +kernel
theorem ll_8165 : hh_len 8165 = 100 := by decide +kernel
theorem lr_5750 : hh_rf 5750 = 8265 := by decide +kernel
theorem lt_8265 : hh_tag 8265 = 2 := by decide +kernel
theorem ll_8265 : hh_len 8265 = 2 := by decide +kernel
theorem lr_5751 : hh_rf 5751 = 8267 := by decide +kernel
theorem lt_8267 : hh_tag 8267 = 0 := by decide +kernel
theorem ll_8267 : hh_len 8267 = 272 := by decide +kernel
theorem lr_5752 : hh_rf 5752 = 8539 := by decide +kernel
theorem lt_8539 : hh_tag 8539 = 0 := by decide +kernel
theorem ll_8539 : hh_len 8539 = 740 := by decide +kernel
theorem lr_5753 : hh_rf 5753 = 9279 := by decide +kernel
theorem lt_9279 : hh_tag 9279 = 0 := by decide +kernel
theorem ll_9279 : hh_len 9279 = 16 := by decide +kernel
theorem lr_731 : hh_rf 731 = 733 := by decide +kernel
theorem lt_733 : hh_tag 733 = 5 := by decide +kernel
theorem ll_733 : hh_len 733 = 2 := by decide +kernel
theorem lr_732 : hh_rf 732 = 899 := by decide +kernel
theorem lt_899 : hh_tag 899 = 0 := by decide +kernel
theorem ll_899 : hh_len 899 = 3 := by decide +kernel
theorem lr_903 : hh_rf 903 = 905 := by decide +kernel
theorem lt_905 : hh_tag 905 = 5 := by decide +kernel
theorem ll_905 : hh_len 905 = 2 := by decide +kernel
theorem lr_904 : hh_rf 904 = 1071 := by decide +kernel
theorem lt_1071 : hh_tag 1071 = 0 := by decide +kernel
theorem ll_1071 : hh_len 1071 = 3 := by decide +kernel
theorem lr_1074 : hh_rf 1074 = 1086 := by decide +kernel
theorem lt_1086 : hh_tag 1086 = 0 := by decide +kernel
theorem ll_1086 : hh_len 1086 = 2 := by decide +kernel
theorem lr_1082 : hh_rf 1082 = 1088 := by decide +kernel
theorem lt_1088 : hh_tag 1088 = 7 := by decide +kernel
theorem ll_1088 : hh_len 1088 = 2 := by decide +kernel
theorem lr_1088 : hh_rf 1088 = 1090 := by decide +kernel
theorem lt_1090 : hh_tag 1090 = 0 := by decide +kernel
theorem ll_1090 : hh_len 1090 = 8 := by decide +kernel
theorem lr_1089 : hh_rf 1089 = 1098 := by decide +kernel
theorem lt_1098 : hh_tag 1098 = 0 := by decide +kernel
theorem ll_1098 : hh_len 1098 = 8 := by decide +kernel
theorem lr_1083 : hh_rf 1083 = 1106 := by decide +kernel
theorem lt_1106 : hh_tag 1106 = 7 := by decide +kernel
theorem ll_1106 : hh_len 1106 = 2 := by decide +kernel
theorem lr_1106 : hh_rf 1106 = 1108 := by decide +kernel
theorem lt_1108 : hh_tag 1108 = 0 := by decide +kernel
theorem ll_1108 : hh_len 1108 = 8 := by decide +kernel
theorem lr_1107 : hh_rf 1107 = 1116 := by decide +kernel
theorem lt_1116 : hh_tag 1116 = 0 := by decide +kernel
theorem ll_1116 : hh_len 1116 = 8 := by decide +kernel
theorem lr_1084 : hh_rf 1084 = 1124 := by decide +kernel
theorem lt_1124 : hh_tag 1124 = 7 := by decide +kernel
theorem ll_1124 : hh_len 1124 = 2 := by decide +kernel
theorem lr_1124 : hh_rf 1124 = 1126 := by decide +kernel
theorem lt_1126 : hh_tag 1126 = 0 := by decide +kernel
theorem ll_1126 : hh_len 1126 = 8 := by decide +kernel
theorem lr_1125 : hh_rf 1125 = 1134 := by decide +kernel
theorem lt_1134 : hh_tag 1134 = 0 := by decide +kernel
theorem ll_1134 : hh_len 1134 = 8 := by decide +kernel
theorem lr_1085 : hh_rf 1085 = 1142 := by decide +kernel
theorem lt_1142 : hh_tag 1142 = 7 := by decide +kernel
theorem ll_1142 : hh_len 1142 = 5 := by decide +kernel
theorem lr_1142 : hh_rf 1142 = 1147 := by decide +kernel
theorem lt_1147 : hh_tag 1147 = 0 := by decide +kernel
theorem ll_1147 : hh_len 1147 = 60 := by decide +kernel
theorem lr_1143 : hh_rf 1143 = 1207 := by decide +kernel
theorem lt_1207 : hh_tag 1207 = 0 := by decide +kernel
theorem ll_1207 : hh_len 1207 = 60 := by decide +kernel
theorem lr_1144 : hh_rf 1144 = 1267 := by decide +kernel
theorem lt_1267 : hh_tag 1267 = 0 := by decide +kernel
theorem ll_1267 : hh_len 1267 = 60 := by decide +kernel
theorem lr_1145 : hh_rf 1145 = 1327 := by decide +kernel
theorem lt_1327 : hh_tag 1327 = 0 := by decide +kernel
theorem ll_1327 : hh_len 1327 = 60 := by decide +kernel
theorem lr_1146 : hh_rf 1146 = 1387 := by decide +kernel
theorem lt_1387 : hh_tag 1387 = 0 := by decide +kernel
theorem ll_1387 : hh_len 1387 = 60 := by decide +kernel
theorem lr_1447 : hh_rf 1447 = 1459 := by decide +kernel
theorem lt_1459 : hh_tag 1459 = 0 := by decide +kernel
theorem ll_1459 : hh_len 1459 = 2 := by decide +kernel
theorem lr_1455 : hh_rf 1455 = 1461 := by decide +kernel
theorem lt_1461 : hh_tag 1461 = 7 := by decide +kernel
theorem ll_1461 : hh_len 1461 = 2 := by decide +kernel
theorem lr_1461 : hh_rf 1461 = 1463 := by decide +kernel
theorem lt_1463 : hh_tag 1463 = 0 := by decide +kernel
theorem ll_1463 : hh_len 1463 = 8 := by decide +kernel
theorem lr_1462 : hh_rf 1462 = 1471 := by decide +kernel
theorem lt_1471 : hh_tag 1471 = 0 := by decide +kernel
theorem ll_1471 : hh_len 1471 = 8 := by decide +kernel
theorem lr_1456 : hh_rf 1456 = 1479 := by decide +kernel
theorem lt_1479 : hh_tag 1479 = 7 := by decide +kernel
theorem ll_1479 : hh_len 1479 = 2 := by decide +kernel
theorem lr_1479 : hh_rf 1479 = 1481 := by decide +kernel
theorem lt_1481 : hh_tag 1481 = 0 := by decide +kernel
theorem ll_1481 : hh_len 1481 = 8 := by decide +kernel
theorem lr_1480 : hh_rf 1480 = 1489 := by decide +kernel
theorem lt_1489 : hh_tag 1489 = 0 := by decide +kernel
theorem ll_1489 : hh_len 1489 = 8 := by decide +kernel
theorem lr_1457 : hh_rf 1457 = 1497 := by decide +kernel
theorem lt_1497 : hh_tag 1497 = 7 := by decide +kernel
theorem ll_1497 : hh_len 1497 = 2 := by decide +kernel
theorem lr_1497 : hh_rf 1497 = 1499 := by decide +kernel
theorem lt_1499 : hh_tag 1499 = 0 := by decide +kernel
theorem ll_1499 : hh_len 1499 = 8 := by decide +kernel
theorem lr_1498 : hh_rf 1498 = 1507 := by decide +kernel
theorem lt_1507 : hh_tag 1507 = 0 := by decide +kernel
theorem ll_1507 : hh_len 1507 = 8 := by decide +kernel
theorem lr_1458 : hh_rf 1458 = 1515 := by decide +kernel
theorem lt_1515 : hh_tag 1515 = 7 := by decide +kernel
theorem ll_1515 : hh_len 1515 = 5 := by decide +kernel
theorem lr_1515 : hh_rf 1515 = 1520 := by decide +kernel
theorem lt_1520 : hh_tag 1520 = 0 := by decide +kernel
theorem ll_1520 : hh_len 1520 = 60 := by decide +kernel
theorem lr_1516 : hh_rf 1516 = 1580 := by decide +kernel
theorem lt_1580 : hh_tag 1580 = 0 := by decide +kernel
theorem ll_1580 : hh_len 1580 = 60 := by decide +kernel
theorem lr_1517 : hh_rf 1517 = 1640 := by decide +kernel
theorem lt_1640 : hh_tag 1640 = 0 := by decide +kernel
theorem ll_1640 : hh_len 1640 = 60 := by decide +kernel
theorem lr_1518 : hh_rf 1518 = 1700 := by decide +kernel
theorem lt_1700 : hh_tag 1700 = 0 := by decide +kernel
theorem ll_1700 : hh_len 1700 = 60 := by decide +kernel
theorem lr_1519 : hh_rf 1519 = 1760 := by decide +kernel
theorem lt_1760 : hh_tag 1760 = 0 := by decide +kernel
theorem ll_1760 : hh_len 1760 = 60 := by decide +kernel
theorem lr_sheet_all : ∀ k, k < 8 → hh_rf (14 + k) = 4281 + 44 * k := by decide +kernel
theorem lr_sheet {k : Nat} (h : k < 8) : hh_rf (14 + k) = 4281 + 44 * k := lr_sheet_all k h
theorem lr_imm_all : ∀ k, k < 2 → hh_rf (1820 + k) = 4633 + 545 * k := by decide +kernel
theorem lr_imm {k : Nat} (h : k < 2) : hh_rf (1820 + k) = 4633 + 545 * k := lr_imm_all k h
theorem lr_imt_all : ∀ k, k < 2 → hh_rf (1822 + k) = 4805 + 545 * k := by decide +kernel
theorem lr_imt {k : Nat} (h : k < 2) : hh_rf (1822 + k) = 4805 + 545 * k := lr_imt_all k h
theorem lr_game_all : ∀ k, k < 21 → hh_rf (2137 + k) = 2158 + 100 * k := by decide +kernel
theorem lr_game {k : Nat} (h : k < 21) : hh_rf (2137 + k) = 2158 + 100 * k := lr_game_all k h
theorem lt_game_all : ∀ k, k < 21 → hh_tag (2158 + 100 * k) = 0 := by decide +kernel
theorem lt_game {k : Nat} (h : k < 21) : hh_tag (2158 + 100 * k) = 0 := lt_game_all k h
theorem ll_game_all : ∀ k, k < 21 → hh_len (2158 + 100 * k) = 100 := by decide +kernel
theorem ll_game {k : Nat} (h : k < 21) : hh_len (2158 + 100 * k) = 100 := ll_game_all k h
theorem ls_cls_all : ∀ k, k < 8 → hh_cls (4281 + 44 * k) = 6 := by decide +kernel
theorem ls_cls {k : Nat} (h : k < 8) : hh_cls (4281 + 44 * k) = 6 := ls_cls_all k h
theorem ls_rf_all : ∀ k, k < 8 → hh_rf (4281 + 44 * k + 3) = 4285 + 44 * k := by decide +kernel
theorem ls_rf {k : Nat} (h : k < 8) : hh_rf (4281 + 44 * k + 3) = 4285 + 44 * k := ls_rf_all k h
theorem ls_tag_all : ∀ k, k < 8 → hh_tag (4285 + 44 * k) = 0 := by decide +kernel
theorem ls_tag {k : Nat} (h : k < 8) : hh_tag (4285 + 44 * k) = 0 := ls_tag_all k h
theorem ls_len_all : ∀ k, k < 8 → hh_len (4285 + 44 * k) = 40 := by decide +kernel
theorem ls_len {k : Nat} (h : k < 8) : hh_len (4285 + 44 * k) = 40 := ls_len_all k h
def IsTug (t : Nat) : Prop := t = 1074 ∨ t = 1447 ∨ t = 4805 ∨ t = 5350
def IsMatch (t : Nat) : Prop := t = 730 ∨ t = 902 ∨ t = 4633 ∨ t = 5178
def IsSide (t : Nat) : Prop := t = 735 ∨ t = 817 ∨ t = 907 ∨ t = 989 ∨ t = 4638 ∨ t = 4720 ∨ t = 5183 ∨ t = 5265
theorem tg_cls {t : Nat} (ht : IsTug t) : hh_cls t = 8 := by rcases ht with rfl | rfl | rfl | rfl <;> decide +kernel
theorem tg_rf0 {t : Nat} (ht : IsTug t) : hh_rf t = t + 12 := by rcases ht with rfl | rfl | rfl | rfl <;> decide +kernel
theorem tg_rf8 {t : Nat} (ht : IsTug t) : hh_rf (t + 8) = t + 14 := by rcases ht with rfl | rfl | rfl | rfl <;> decide +kernel
theorem tg_rf9 {t : Nat} (ht : IsTug t) : hh_rf (t + 9) = t + 32 := by rcases ht with rfl | rfl | rfl | rfl <;> decide +kernel
theorem tg_rf10 {t : Nat} (ht : IsTug t) : hh_rf (t + 10) = t + 50 := by rcases ht with rfl | rfl | rfl | rfl <;> decide +kernel
theorem tg_rf11 {t : Nat} (ht : IsTug t) : hh_rf (t + 11) = t + 68 := by rcases ht with rfl | rfl | rfl | rfl <;> decide +kernel
theorem tg_t12 {t : Nat} (ht : IsTug t) : hh_tag (t + 12) = 0 := by rcases ht with rfl | rfl | rfl | rfl <;> decide +kernel
theorem tg_l12 {t : Nat} (ht : IsTug t) : hh_len (t + 12) = 2 := by rcases ht with rfl | rfl | rfl | rfl <;> decide +kernel
theorem tg_t14 {t : Nat} (ht : IsTug t) : hh_tag (t + 14) = 7 := by rcases ht with rfl | rfl | rfl | rfl <;> decide +kernel
theorem tg_l14 {t : Nat} (ht : IsTug t) : hh_len (t + 14) = 2 := by rcases ht with rfl | rfl | rfl | rfl <;> decide +kernel
theorem tg_r14 {t : Nat} (ht : IsTug t) : hh_rf (t + 14) = t + 16 := by rcases ht with rfl | rfl | rfl | rfl <;> decide +kernel
theorem tg_t16 {t : Nat} (ht : IsTug t) : hh_tag (t + 16) = 0 := by rcases ht with rfl | rfl | rfl | rfl <;> decide +kernel
theorem tg_l16 {t : Nat} (ht : IsTug t) : hh_len (t + 16) = 8 := by rcases ht with rfl | rfl | rfl | rfl <;> decide +kernel
theorem tg_r15 {t : Nat} (ht : IsTug t) : hh_rf (t + 15) = t + 24 := by rcases ht with rfl | rfl | rfl | rfl <;> decide +kernel
theorem tg_t24 {t : Nat} (ht : IsTug t) : hh_tag (t + 24) = 0 := by rcases ht with rfl | rfl | rfl | rfl <;> decide +kernel
theorem tg_l24 {t : Nat} (ht : IsTug t) : hh_len (t + 24) = 8 := by rcases ht with rfl | rfl | rfl | rfl <;> decide +kernel
theorem tg_t32 {t : Nat} (ht : IsTug t) : hh_tag (t + 32) = 7 := by rcases ht with rfl | rfl | rfl | rfl <;> decide +kernel
theorem tg_l32 {t : Nat} (ht : IsTug t) : hh_len (t + 32) = 2 := by rcases ht with rfl | rfl | rfl | rfl <;> decide +kernel
theorem tg_r32 {t : Nat} (ht : IsTug t) : hh_rf (t + 32) = t + 34 := by rcases ht with rfl | rfl | rfl | rfl <;> decide +kernel
theorem tg_t34 {t : Nat} (ht : IsTug t) : hh_tag (t + 34) = 0 := by rcases ht with rfl | rfl | rfl | rfl <;> decide +kernel
theorem tg_l34 {t : Nat} (ht : IsTug t) : hh_len (t + 34) = 8 := by rcases ht with rfl | rfl | rfl | rfl <;> decide +kernel
theorem tg_r33 {t : Nat} (ht : IsTug t) : hh_rf (t + 33) = t + 42 := by rcases ht with rfl | rfl | rfl | rfl <;> decide +kernel
theorem tg_t42 {t : Nat} (ht : IsTug t) : hh_tag (t + 42) = 0 := by rcases ht with rfl | rfl | rfl | rfl <;> decide +kernel
theorem tg_l42 {t : Nat} (ht : IsTug t) : hh_len (t + 42) = 8 := by rcases ht with rfl | rfl | rfl | rfl <;> decide +kernel
theorem tg_t50 {t : Nat} (ht : IsTug t) : hh_tag (t + 50) = 7 := by rcases ht with rfl | rfl | rfl | rfl <;> decide +kernel
theorem tg_l50 {t : Nat} (ht : IsTug t) : hh_len (t + 50) = 2 := by rcases ht with rfl | rfl | rfl | rfl <;> decide +kernel
theorem tg_r50 {t : Nat} (ht : IsTug t) : hh_rf (t + 50) = t + 52 := by rcases ht with rfl | rfl | rfl | rfl <;> decide +kernel
theorem tg_t52 {t : Nat} (ht : IsTug t) : hh_tag (t + 52) = 0 := by rcases ht with rfl | rfl | rfl | rfl <;> decide +kernel
theorem tg_l52 {t : Nat} (ht : IsTug t) : hh_len (t + 52) = 8 := by rcases ht with rfl | rfl | rfl | rfl <;> decide +kernel
theorem tg_r51 {t : Nat} (ht : IsTug t) : hh_rf (t + 51) = t + 60 := by rcases ht with rfl | rfl | rfl | rfl <;> decide +kernel
theorem tg_t60 {t : Nat} (ht : IsTug t) : hh_tag (t + 60) = 0 := by rcases ht with rfl | rfl | rfl | rfl <;> decide +kernel
theorem tg_l60 {t : Nat} (ht : IsTug t) : hh_len (t + 60) = 8 := by rcases ht with rfl | rfl | rfl | rfl <;> decide +kernel
theorem tg_t68 {t : Nat} (ht : IsTug t) : hh_tag (t + 68) = 7 := by rcases ht with rfl | rfl | rfl | rfl <;> decide +kernel
theorem tg_l68 {t : Nat} (ht : IsTug t) : hh_len (t + 68) = 5 := by rcases ht with rfl | rfl | rfl | rfl <;> decide +kernel
theorem tg_r68 {t : Nat} (ht : IsTug t) : hh_rf (t + 68) = t + 73 := by rcases ht with rfl | rfl | rfl | rfl <;> decide +kernel
theorem tg_t73 {t : Nat} (ht : IsTug t) : hh_tag (t + 73) = 0 := by rcases ht with rfl | rfl | rfl | rfl <;> decide +kernel
theorem tg_l73 {t : Nat} (ht : IsTug t) : hh_len (t + 73) = 60 := by rcases ht with rfl | rfl | rfl | rfl <;> decide +kernel
theorem tg_r69 {t : Nat} (ht : IsTug t) : hh_rf (t + 69) = t + 133 := by rcases ht with rfl | rfl | rfl | rfl <;> decide +kernel
theorem tg_t133 {t : Nat} (ht : IsTug t) : hh_tag (t + 133) = 0 := by rcases ht with rfl | rfl | rfl | rfl <;> decide +kernel
theorem tg_l133 {t : Nat} (ht : IsTug t) : hh_len (t + 133) = 60 := by rcases ht with rfl | rfl | rfl | rfl <;> decide +kernel
theorem tg_r70 {t : Nat} (ht : IsTug t) : hh_rf (t + 70) = t + 193 := by rcases ht with rfl | rfl | rfl | rfl <;> decide +kernel
theorem tg_t193 {t : Nat} (ht : IsTug t) : hh_tag (t + 193) = 0 := by rcases ht with rfl | rfl | rfl | rfl <;> decide +kernel
theorem tg_l193 {t : Nat} (ht : IsTug t) : hh_len (t + 193) = 60 := by rcases ht with rfl | rfl | rfl | rfl <;> decide +kernel
theorem tg_r71 {t : Nat} (ht : IsTug t) : hh_rf (t + 71) = t + 253 := by rcases ht with rfl | rfl | rfl | rfl <;> decide +kernel
theorem tg_t253 {t : Nat} (ht : IsTug t) : hh_tag (t + 253) = 0 := by rcases ht with rfl | rfl | rfl | rfl <;> decide +kernel
theorem tg_l253 {t : Nat} (ht : IsTug t) : hh_len (t + 253) = 60 := by rcases ht with rfl | rfl | rfl | rfl <;> decide +kernel
theorem tg_r72 {t : Nat} (ht : IsTug t) : hh_rf (t + 72) = t + 313 := by rcases ht with rfl | rfl | rfl | rfl <;> decide +kernel
theorem tg_t313 {t : Nat} (ht : IsTug t) : hh_tag (t + 313) = 0 := by rcases ht with rfl | rfl | rfl | rfl <;> decide +kernel
theorem tg_l313 {t : Nat} (ht : IsTug t) : hh_len (t + 313) = 60 := by rcases ht with rfl | rfl | rfl | rfl <;> decide +kernel
theorem mt_cls {t : Nat} (ht : IsMatch t) : hh_cls t = 3 := by rcases ht with rfl | rfl | rfl | rfl <;> decide +kernel
theorem mt_rf1 {t : Nat} (ht : IsMatch t) : hh_rf (t + 1) = t + 3 := by rcases ht with rfl | rfl | rfl | rfl <;> decide +kernel
theorem mt_rf2 {t : Nat} (ht : IsMatch t) : hh_rf (t + 2) = t + 169 := by rcases ht with rfl | rfl | rfl | rfl <;> decide +kernel
theorem mt_t3 {t : Nat} (ht : IsMatch t) : hh_tag (t + 3) = 5 := by rcases ht with rfl | rfl | rfl | rfl <;> decide +kernel
theorem mt_l3 {t : Nat} (ht : IsMatch t) : hh_len (t + 3) = 2 := by rcases ht with rfl | rfl | rfl | rfl <;> decide +kernel
theorem mt_r3 {t : Nat} (ht : IsMatch t) : hh_rf (t + 3) = t + 5 := by rcases ht with rfl | rfl | rfl | rfl <;> decide +kernel
theorem mt_r4 {t : Nat} (ht : IsMatch t) : hh_rf (t + 4) = t + 87 := by rcases ht with rfl | rfl | rfl | rfl <;> decide +kernel
theorem mt_t169 {t : Nat} (ht : IsMatch t) : hh_tag (t + 169) = 0 := by rcases ht with rfl | rfl | rfl | rfl <;> decide +kernel
theorem mt_l169 {t : Nat} (ht : IsMatch t) : hh_len (t + 169) = 3 := by rcases ht with rfl | rfl | rfl | rfl <;> decide +kernel
theorem mt_s0 {t : Nat} (ht : IsMatch t) : IsSide (t + 5) := by unfold IsMatch at ht; unfold IsSide; omega
theorem mt_s1 {t : Nat} (ht : IsMatch t) : IsSide (t + 87) := by unfold IsMatch at ht; unfold IsSide; omega
theorem sd_cls {t : Nat} (ht : IsSide t) : hh_cls t = 7 := by rcases ht with rfl | rfl | rfl | rfl | rfl | rfl | rfl | rfl <;> decide +kernel
theorem sd_rf1 {t : Nat} (ht : IsSide t) : hh_rf (t + 1) = t + 4 := by rcases ht with rfl | rfl | rfl | rfl | rfl | rfl | rfl | rfl <;> decide +kernel
theorem sd_rf3 {t : Nat} (ht : IsSide t) : hh_rf (t + 3) = t + 52 := by rcases ht with rfl | rfl | rfl | rfl | rfl | rfl | rfl | rfl <;> decide +kernel
theorem sd_t4 {t : Nat} (ht : IsSide t) : hh_tag (t + 4) = 7 := by rcases ht with rfl | rfl | rfl | rfl | rfl | rfl | rfl | rfl <;> decide +kernel
theorem sd_l4 {t : Nat} (ht : IsSide t) : hh_len (t + 4) = 8 := by rcases ht with rfl | rfl | rfl | rfl | rfl | rfl | rfl | rfl <;> decide +kernel
theorem sd_t52 {t : Nat} (ht : IsSide t) : hh_tag (t + 52) = 7 := by rcases ht with rfl | rfl | rfl | rfl | rfl | rfl | rfl | rfl <;> decide +kernel
theorem sd_l52 {t : Nat} (ht : IsSide t) : hh_len (t + 52) = 6 := by rcases ht with rfl | rfl | rfl | rfl | rfl | rfl | rfl | rfl <;> decide +kernel
theorem sd_r4 {t k : Nat} (ht : IsSide t) (h : k < 8) : hh_rf (t + 4 + k) = t + 12 + 5 * k := by rcases ht with rfl | rfl | rfl | rfl | rfl | rfl | rfl | rfl <;> revert k <;> decide +kernel
theorem sd_tt {t k : Nat} (ht : IsSide t) (h : k < 8) : hh_tag (t + 12 + 5 * k) = 0 := by rcases ht with rfl | rfl | rfl | rfl | rfl | rfl | rfl | rfl <;> revert k <;> decide +kernel
theorem sd_tl {t k : Nat} (ht : IsSide t) (h : k < 8) : hh_len (t + 12 + 5 * k) = 5 := by rcases ht with rfl | rfl | rfl | rfl | rfl | rfl | rfl | rfl <;> revert k <;> decide +kernel
theorem sd_r52 {t k : Nat} (ht : IsSide t) (h : k < 6) : hh_rf (t + 52 + k) = t + 58 + 4 * k := by rcases ht with rfl | rfl | rfl | rfl | rfl | rfl | rfl | rfl <;> revert k <;> decide +kernel
theorem sd_ut {t k : Nat} (ht : IsSide t) (h : k < 6) : hh_tag (t + 58 + 4 * k) = 0 := by rcases ht with rfl | rfl | rfl | rfl | rfl | rfl | rfl | rfl <;> revert k <;> decide +kernel
theorem sd_ul {t k : Nat} (ht : IsSide t) (h : k < 6) : hh_len (t + 58 + 4 * k) = 4 := by rcases ht with rfl | rfl | rfl | rfl | rfl | rfl | rfl | rfl <;> revert k <;> decide +kernel
theorem lr_m733_all : ∀ k, k < 2 → hh_rf (733 + k) = 735 + 82 * k := by decide +kernel
theorem lr_m733 {k : Nat} (h : k < 2) : hh_rf (733 + k) = 735 + 82 * k := lr_m733_all k h
theorem is_side730 {k : Nat} (h : k < 2) : IsSide (735 + 82 * k) := by unfold IsSide; omega
theorem lr_m905_all : ∀ k, k < 2 → hh_rf (905 + k) = 907 + 82 * k := by decide +kernel
theorem lr_m905 {k : Nat} (h : k < 2) : hh_rf (905 + k) = 907 + 82 * k := lr_m905_all k h
theorem is_side902 {k : Nat} (h : k < 2) : IsSide (907 + 82 * k) := by unfold IsSide; omega
theorem lr_t1074_br_all : ∀ k, k < 2 → hh_rf (1088 + k) = 1090 + 8 * k := by decide +kernel
theorem lr_t1074_br {k : Nat} (h : k < 2) : hh_rf (1088 + k) = 1090 + 8 * k := lr_t1074_br_all k h
theorem lt_t1074_br_all : ∀ k, k < 2 → hh_tag (1090 + 8 * k) = 0 := by decide +kernel
theorem lt_t1074_br {k : Nat} (h : k < 2) : hh_tag (1090 + 8 * k) = 0 := lt_t1074_br_all k h
theorem ll_t1074_br_all : ∀ k, k < 2 → hh_len (1090 + 8 * k) = 8 := by decide +kernel
theorem ll_t1074_br {k : Nat} (h : k < 2) : hh_len (1090 + 8 * k) = 8 := ll_t1074_br_all k h
theorem lr_t1074_did_all : ∀ k, k < 2 → hh_rf (1106 + k) = 1108 + 8 * k := by decide +kernel
theorem lr_t1074_did {k : Nat} (h : k < 2) : hh_rf (1106 + k) = 1108 + 8 * k := lr_t1074_did_all k h
theorem lt_t1074_did_all : ∀ k, k < 2 → hh_tag (1108 + 8 * k) = 0 := by decide +kernel
theorem lt_t1074_did {k : Nat} (h : k < 2) : hh_tag (1108 + 8 * k) = 0 := lt_t1074_did_all k h
theorem ll_t1074_did_all : ∀ k, k < 2 → hh_len (1108 + 8 * k) = 8 := by decide +kernel
theorem ll_t1074_did {k : Nat} (h : k < 2) : hh_len (1108 + 8 * k) = 8 := ll_t1074_did_all k h
theorem lr_t1074_fo_all : ∀ k, k < 2 → hh_rf (1124 + k) = 1126 + 8 * k := by decide +kernel
theorem lr_t1074_fo {k : Nat} (h : k < 2) : hh_rf (1124 + k) = 1126 + 8 * k := lr_t1074_fo_all k h
theorem lt_t1074_fo_all : ∀ k, k < 2 → hh_tag (1126 + 8 * k) = 0 := by decide +kernel
theorem lt_t1074_fo {k : Nat} (h : k < 2) : hh_tag (1126 + 8 * k) = 0 := lt_t1074_fo_all k h
theorem ll_t1074_fo_all : ∀ k, k < 2 → hh_len (1126 + 8 * k) = 8 := by decide +kernel
theorem ll_t1074_fo {k : Nat} (h : k < 2) : hh_len (1126 + 8 * k) = 8 := ll_t1074_fo_all k h
theorem lr_t1074_ke_all : ∀ k, k < 5 → hh_rf (1142 + k) = 1147 + 60 * k := by decide +kernel
theorem lr_t1074_ke {k : Nat} (h : k < 5) : hh_rf (1142 + k) = 1147 + 60 * k := lr_t1074_ke_all k h
theorem lt_t1074_ke_all : ∀ k, k < 5 → hh_tag (1147 + 60 * k) = 0 := by decide +kernel
theorem lt_t1074_ke {k : Nat} (h : k < 5) : hh_tag (1147 + 60 * k) = 0 := lt_t1074_ke_all k h
theorem ll_t1074_ke_all : ∀ k, k < 5 → hh_len (1147 + 60 * k) = 60 := by decide +kernel
theorem ll_t1074_ke {k : Nat} (h : k < 5) : hh_len (1147 + 60 * k) = 60 := ll_t1074_ke_all k h
theorem lr_t1447_br_all : ∀ k, k < 2 → hh_rf (1461 + k) = 1463 + 8 * k := by decide +kernel
theorem lr_t1447_br {k : Nat} (h : k < 2) : hh_rf (1461 + k) = 1463 + 8 * k := lr_t1447_br_all k h
theorem lt_t1447_br_all : ∀ k, k < 2 → hh_tag (1463 + 8 * k) = 0 := by decide +kernel
theorem lt_t1447_br {k : Nat} (h : k < 2) : hh_tag (1463 + 8 * k) = 0 := lt_t1447_br_all k h
theorem ll_t1447_br_all : ∀ k, k < 2 → hh_len (1463 + 8 * k) = 8 := by decide +kernel
theorem ll_t1447_br {k : Nat} (h : k < 2) : hh_len (1463 + 8 * k) = 8 := ll_t1447_br_all k h
theorem lr_t1447_did_all : ∀ k, k < 2 → hh_rf (1479 + k) = 1481 + 8 * k := by decide +kernel
theorem lr_t1447_did {k : Nat} (h : k < 2) : hh_rf (1479 + k) = 1481 + 8 * k := lr_t1447_did_all k h
theorem lt_t1447_did_all : ∀ k, k < 2 → hh_tag (1481 + 8 * k) = 0 := by decide +kernel
theorem lt_t1447_did {k : Nat} (h : k < 2) : hh_tag (1481 + 8 * k) = 0 := lt_t1447_did_all k h
theorem ll_t1447_did_all : ∀ k, k < 2 → hh_len (1481 + 8 * k) = 8 := by decide +kernel
theorem ll_t1447_did {k : Nat} (h : k < 2) : hh_len (1481 + 8 * k) = 8 := ll_t1447_did_all k h
theorem lr_t1447_fo_all : ∀ k, k < 2 → hh_rf (1497 + k) = 1499 + 8 * k := by decide +kernel
theorem lr_t1447_fo {k : Nat} (h : k < 2) : hh_rf (1497 + k) = 1499 + 8 * k := lr_t1447_fo_all k h
theorem lt_t1447_fo_all : ∀ k, k < 2 → hh_tag (1499 + 8 * k) = 0 := by decide +kernel
theorem lt_t1447_fo {k : Nat} (h : k < 2) : hh_tag (1499 + 8 * k) = 0 := lt_t1447_fo_all k h
theorem ll_t1447_fo_all : ∀ k, k < 2 → hh_len (1499 + 8 * k) = 8 := by decide +kernel
theorem ll_t1447_fo {k : Nat} (h : k < 2) : hh_len (1499 + 8 * k) = 8 := ll_t1447_fo_all k h
theorem lr_t1447_ke_all : ∀ k, k < 5 → hh_rf (1515 + k) = 1520 + 60 * k := by decide +kernel
theorem lr_t1447_ke {k : Nat} (h : k < 5) : hh_rf (1515 + k) = 1520 + 60 * k := lr_t1447_ke_all k h
theorem lt_t1447_ke_all : ∀ k, k < 5 → hh_tag (1520 + 60 * k) = 0 := by decide +kernel
theorem lt_t1447_ke {k : Nat} (h : k < 5) : hh_tag (1520 + 60 * k) = 0 := lt_t1447_ke_all k h
theorem ll_t1447_ke_all : ∀ k, k < 5 → hh_len (1520 + 60 * k) = 60 := by decide +kernel
theorem ll_t1447_ke {k : Nat} (h : k < 5) : hh_len (1520 + 60 * k) = 60 := ll_t1447_ke_all k h
theorem ms_r {m s : Nat} (hm : IsMatch m) (h : s < 2) : hh_rf (m + 3 + s) = m + 5 + 82 * s := by rcases hm with rfl | rfl | rfl | rfl <;> revert s <;> decide +kernel
theorem ms_side {m s : Nat} (hm : IsMatch m) (h : s < 2) : IsSide (m + 5 + 82 * s) := by unfold IsMatch at hm; unfold IsSide; omega
theorem tk_rf_br {t k : Nat} (ht : IsTug t) (h : k < 2) : hh_rf (t + 14 + k) = t + 16 + 8 * k := by rcases ht with rfl | rfl | rfl | rfl <;> revert k <;> decide +kernel
theorem tk_tag_br {t k : Nat} (ht : IsTug t) (h : k < 2) : hh_tag (t + 16 + 8 * k) = 0 := by rcases ht with rfl | rfl | rfl | rfl <;> revert k <;> decide +kernel
theorem tk_len_br {t k : Nat} (ht : IsTug t) (h : k < 2) : hh_len (t + 16 + 8 * k) = 8 := by rcases ht with rfl | rfl | rfl | rfl <;> revert k <;> decide +kernel
theorem tk_rf_did {t k : Nat} (ht : IsTug t) (h : k < 2) : hh_rf (t + 32 + k) = t + 34 + 8 * k := by rcases ht with rfl | rfl | rfl | rfl <;> revert k <;> decide +kernel
theorem tk_tag_did {t k : Nat} (ht : IsTug t) (h : k < 2) : hh_tag (t + 34 + 8 * k) = 0 := by rcases ht with rfl | rfl | rfl | rfl <;> revert k <;> decide +kernel
theorem tk_len_did {t k : Nat} (ht : IsTug t) (h : k < 2) : hh_len (t + 34 + 8 * k) = 8 := by rcases ht with rfl | rfl | rfl | rfl <;> revert k <;> decide +kernel
theorem tk_rf_fo {t k : Nat} (ht : IsTug t) (h : k < 2) : hh_rf (t + 50 + k) = t + 52 + 8 * k := by rcases ht with rfl | rfl | rfl | rfl <;> revert k <;> decide +kernel
theorem tk_tag_fo {t k : Nat} (ht : IsTug t) (h : k < 2) : hh_tag (t + 52 + 8 * k) = 0 := by rcases ht with rfl | rfl | rfl | rfl <;> revert k <;> decide +kernel
theorem tk_len_fo {t k : Nat} (ht : IsTug t) (h : k < 2) : hh_len (t + 52 + 8 * k) = 8 := by rcases ht with rfl | rfl | rfl | rfl <;> revert k <;> decide +kernel
theorem tk_rf_ke {t k : Nat} (ht : IsTug t) (h : k < 5) : hh_rf (t + 68 + k) = t + 73 + 60 * k := by rcases ht with rfl | rfl | rfl | rfl <;> revert k <;> decide +kernel
theorem tk_tag_ke {t k : Nat} (ht : IsTug t) (h : k < 5) : hh_tag (t + 73 + 60 * k) = 0 := by rcases ht with rfl | rfl | rfl | rfl <;> revert k <;> decide +kernel
theorem tk_len_ke {t k : Nat} (ht : IsTug t) (h : k < 5) : hh_len (t + 73 + 60 * k) = 60 := by rcases ht with rfl | rfl | rfl | rfl <;> revert k <;> decide +kernel
