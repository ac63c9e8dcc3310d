/-! left, both -/
def okL (r n h b w : Int) : Prop := (0 ≤ r ∧ r < 8) ∧ (1 ≤ n ∧ n ≤ 20) ∧ (1 ≤ h ∧ h ≤ 999) ∧ (h < b ∧ b ≤ 1999) ∧ 0 ≤ w ∧ w < 3
theorem cl_left (l : Launch) {r i n h b w : Int} {x : hm} (hI : I1 x) {Q : Int → hm → Prop} (hbad : ¬ okL r n h b w → Q (-1000001) x) (hnul : ∀ k : Nat, r = k → k < 8 → okL r n h b w → x (4281 + 44 * k) = 1 → Q (-1000011) (hh_upd x 1 1)) (hpl : ∀ k : Nat, r = k → k < 8 → okL r n h b w → x (4281 + 44 * k) = 0 → ¬ (0 ≤ i ∧ i + n ≤ x (4281 + 44 * k + 2)) → Q (-1000012) (hh_upd x 1 2))
    (hok : ∀ k j m : Nat, r = k → k < 8 → i = j → n = m → j + m ≤ 40 → okL r n h b w → x (4281 + 44 * k) = 0 → (i + n ≤ x (4281 + 44 * k + 2)) → Q (F_left x ((h + b).tdiv 2) m (5771 + 40 * k + j) w) (hh_upd x 1 0)) : hm_I l m_X9_left 3 [Vr 0, Vi r, Vi i, Vi n, Vi h, Vi b, Vi w] x Q := by
  have tail : okL r n h b w → hb_X9_left_85 l Q [some (Vr 0), some (Vi r), some (Vi i), some (Vi n), some (Vi h), some (Vi b), some (Vi w), none, none, none] [] x := by
    intro g
    have g' := g
    obtain ⟨g1, g2, g3, g4, g5⟩ := g'
    simp only [hb_X9_left_85, hb_X9_left_101, hb_X9_left_107, hb_X9_left_117, hb_X9_left_123, hc_iconst, hc_lconst, hc_iload, hc_lload, hc_aload, hc_istore, hc_astore, hc_lstore, hc_iinc, hc_dup, hc_dup2, hc_pop, hc_iadd, hc_isub, hc_imul, hc_iaddw, hc_isubw, hc_imulw, hc_inegw, hc_idiv, hc_irem, hc_ineg, hc_b2, hc_b1, hc_i2l, hc_l2i, hc_ladd, hc_l2, hc_lsh, hc_lcmp, hc_if, hc_icmp, hc_jump, hc_getI, hc_getR, hc_putI, hc_putZ, hc_xald, hc_iast, hc_bast, hc_zast, hc_aald, hc_alen, hc_copy, hc_gets, hc_getsI, hc_sald, hc_ldcs, hc_sval, hc_scod, hc_slen, hc_sbald, hc_callI, hc_callL, hc_callV, hc_max, hc_min, hc_abs, hc_ireturn, hc_zreturn, hc_creturn, hc_lreturn, hc_return, hc_none, hc_switch, hv_sw, hv_get, hv_set, hv_set2, hv_mask, hv_fr, hv_noL, hv_pop, hv_pk, hv_isO, hv_isS, hv_any, hv_w, hv_cat, he_nil, he_i, he_r, he_l, hv_repl_0, hv_repl_s, if_true, if_false, and_true, true_and, and_self, Nat.zero_add, Nat.add_zero, Nat.reduceAdd, Nat.reduceLeDiff, List.length_cons, List.length_nil, Int.toNat_natCast, Bool.false_eq_true, reduceIte, Int.toNat_zero, Int.toNat_one, Int.reduceToNat, or_true, true_or, Int.reduceEq, Int.reduceLT, Int.reduceLE, Int.reduceNeg, Int.reduceAdd, Int.reduceSub, Int.reduceMul, Nat.reduceMul, Nat.reduceEqDiff, implies_true, false_implies, true_implies, not_true_eq_false, not_false_eq_true, ne_eq, or_false, false_or, and_false, false_and, or_self, Classical.not_not, Int.zero_add, Int.add_zero, lc_0, lc_22, lc_730, lc_902, lc_1074, lc_1447, lc_1824, lc_2081, lc_2135, lc_4258, lc_5723, lr_0, lt_14, ll_14, lr_2, lr_4, lr_5, lr_6, lr_7, lr_8, lt_1820, ll_1820, lr_9, lt_1822, ll_1822, lr_10, lr_11, lr_12, lr_13, lr_22, lt_30, ll_30, lr_1824, lt_1825, ll_1825, lr_2081, lt_2086, ll_2086, lr_2082, lt_2102, ll_2102, lr_2083, lt_2118, ll_2118, lr_2135, lt_2137, ll_2137, lr_4263, lt_4265, ll_4265, lr_5725, lt_5755, ll_5755, lr_5726, lt_5763, ll_5763, lr_5727, lt_5771, ll_5771, lr_5728, lt_6091, ll_6091, lr_5729, lt_6227, ll_6227, lr_5731, lt_6363, ll_6363, lr_5732, lt_6733, ll_6733, lr_5743, lt_7433, ll_7433, lr_5744, lt_7435, ll_7435, lr_5745, lt_7805, ll_7805, lr_5746, lt_7809, ll_7809, lr_5747, lt_8065, ll_8065, lr_5748, lt_8165, ll_8165, lr_5750, lt_8265, ll_8265, lr_5751, lt_8267, ll_8267, lr_5752, lt_8539, ll_8539, lr_5753, lt_9279, ll_9279, lr_731, lt_733, ll_733, lr_732, lt_899, ll_899, lr_903, lt_905, ll_905, lr_904, lt_1071, ll_1071, lr_1074, lt_1086, ll_1086, lr_1082, lt_1088, ll_1088, lr_1088, lt_1090, ll_1090, lr_1089, lt_1098, ll_1098, lr_1083, lt_1106, ll_1106, lr_1106, lt_1108, ll_1108, lr_1107, lt_1116, ll_1116, lr_1084, lt_1124, ll_1124, lr_1124, lt_1126, ll_1126, lr_1125, lt_1134, ll_1134, lr_1085, lt_1142, ll_1142, lr_1142, lt_1147, ll_1147, lr_1143, lt_1207, ll_1207, lr_1144, lt_1267, ll_1267, lr_1145, lt_1327, ll_1327, lr_1146, lt_1387, ll_1387, lr_1447, lt_1459, ll_1459, lr_1455, lt_1461, ll_1461, lr_1461, lt_1463, ll_1463, lr_1462, lt_1471, ll_1471, lr_1456, lt_1479, ll_1479, lr_1479, lt_1481, ll_1481, lr_1480, lt_1489, ll_1489, lr_1457, lt_1497, ll_1497, lr_1497, lt_1499, ll_1499, lr_1498, lt_1507, ll_1507, lr_1458, lt_1515, ll_1515, lr_1515, lt_1520, ll_1520, lr_1516, lt_1580, ll_1580, lr_1517, lt_1640, ll_1640, lr_1518, lt_1700, ll_1700, lr_1519, lt_1760, ll_1760]
    obtain ⟨k, rfl⟩ := Int.eq_ofNat_of_zero_le g1.1
    have hk : k < 8 := by omega
    have hk1 := hI k hk
    unfold I1k at hk1
    rw [Int.toNat_natCast, lr_sheet hk]
    simp only [ls_cls hk, true_and]
    refine ⟨⟨by omega, by omega⟩, fun h0 => ?_, fun h0 => ?_⟩
    · refine sp_holds_b l hk (by omega) (fun u1 u2 u3 => ?_) (fun u => sp_found l (by omega) (hpl k rfl hk g h0 (by omega)))
      obtain ⟨j, rfl⟩ := Int.eq_ofNat_of_zero_le u1
      obtain ⟨m, rfl⟩ := Int.eq_ofNat_of_zero_le u2
      have ht : (h + b).tdiv 2 = (h + b) / 2 := Int.tdiv_eq_ediv_of_nonneg (by omega)
      have hb40 : j + m ≤ 40 := by omega
      refine ⟨⟨by omega, by omega⟩, ?_⟩
      refine sp_leftBehind l hk hb40 hk1.2.2 ?_
      exact sp_well l (hok k j m rfl hk rfl rfl hb40 g h0 u3)
    · exact sp_found l (by omega) (hnul k rfl hk g (by omega))
  refine hr_X9_left l (Nat.le_of_ble_eq_true rfl) ?_
  simp only [hb_X9_left_0, hb_X9_left_9, hb_X9_left_14, hb_X9_left_20, hb_X9_left_24, hb_X9_left_25, hb_X9_left_33, hb_X9_left_41, hb_X9_left_48, hb_X9_left_56, hb_X9_left_60, hb_X9_left_61, hb_X9_left_68, hb_X9_left_73, hb_X9_left_82, hc_iconst, hc_lconst, hc_iload, hc_lload, hc_aload, hc_istore, hc_astore, hc_lstore, hc_iinc, hc_dup, hc_dup2, hc_pop, hc_iadd, hc_isub, hc_imul, hc_iaddw, hc_isubw, hc_imulw, hc_inegw, hc_idiv, hc_irem, hc_ineg, hc_b2, hc_b1, hc_i2l, hc_l2i, hc_ladd, hc_l2, hc_lsh, hc_lcmp, hc_if, hc_icmp, hc_jump, hc_getI, hc_getR, hc_putI, hc_putZ, hc_xald, hc_iast, hc_bast, hc_zast, hc_aald, hc_alen, hc_copy, hc_gets, hc_getsI, hc_sald, hc_ldcs, hc_sval, hc_scod, hc_slen, hc_sbald, hc_callI, hc_callL, hc_callV, hc_max, hc_min, hc_abs, hc_ireturn, hc_zreturn, hc_creturn, hc_lreturn, hc_return, hc_none, hc_switch, hv_sw, hv_get, hv_set, hv_set2, hv_mask, hv_fr, hv_noL, hv_pop, hv_pk, hv_isO, hv_isS, hv_any, hv_w, hv_cat, he_nil, he_i, he_r, he_l, hv_repl_0, hv_repl_s, if_true, if_false, and_true, true_and, and_self, Nat.zero_add, Nat.add_zero, Nat.reduceAdd, Nat.reduceLeDiff, List.length_cons, List.length_nil, Int.toNat_natCast, Bool.false_eq_true, reduceIte, Int.toNat_zero, Int.toNat_one, Int.reduceToNat, or_true, true_or, Int.reduceEq, Int.reduceLT, Int.reduceLE, Int.reduceNeg, Int.reduceAdd, Int.reduceSub, Int.reduceMul, Nat.reduceMul, Nat.reduceEqDiff, implies_true, false_implies, true_implies, not_true_eq_false, not_false_eq_true, ne_eq, or_false, false_or, and_false, false_and, or_self, Classical.not_not, Int.zero_add, Int.add_zero, lc_0, lc_22, lc_730, lc_902, lc_1074, lc_1447, lc_1824, lc_2081, lc_2135, lc_4258, lc_5723, lr_0, lt_14, ll_14, lr_2, lr_4, lr_5, lr_6, lr_7, lr_8, lt_1820, ll_1820, lr_9, lt_1822, ll_1822, lr_10, lr_11, lr_12, lr_13, lr_22, lt_30, ll_30, lr_1824, lt_1825, ll_1825, lr_2081, lt_2086, ll_2086, lr_2082, lt_2102, ll_2102, lr_2083, lt_2118, ll_2118, lr_2135, lt_2137, ll_2137, lr_4263, lt_4265, ll_4265, lr_5725, lt_5755, ll_5755, lr_5726, lt_5763, ll_5763, lr_5727, lt_5771, ll_5771, lr_5728, lt_6091, ll_6091, lr_5729, lt_6227, ll_6227, lr_5731, lt_6363, ll_6363, lr_5732, lt_6733, ll_6733, lr_5743, lt_7433, ll_7433, lr_5744, lt_7435, ll_7435, lr_5745, lt_7805, ll_7805, lr_5746, lt_7809, ll_7809, lr_5747, lt_8065, ll_8065, lr_5748, lt_8165, ll_8165, lr_5750, lt_8265, ll_8265, lr_5751, lt_8267, ll_8267, lr_5752, lt_8539, ll_8539, lr_5753, lt_9279, ll_9279, lr_731, lt_733, ll_733, lr_732, lt_899, ll_899, lr_903, lt_905, ll_905, lr_904, lt_1071, ll_1071, lr_1074, lt_1086, ll_1086, lr_1082, lt_1088, ll_1088, lr_1088, lt_1090, ll_1090, lr_1089, lt_1098, ll_1098, lr_1083, lt_1106, ll_1106, lr_1106, lt_1108, ll_1108, lr_1107, lt_1116, ll_1116, lr_1084, lt_1124, ll_1124, lr_1124, lt_1126, ll_1126, lr_1125, lt_1134, ll_1134, lr_1085, lt_1142, ll_1142, lr_1142, lt_1147, ll_1147, lr_1143, lt_1207, ll_1207, lr_1144, lt_1267, ll_1267, lr_1145, lt_1327, ll_1327, lr_1146, lt_1387, ll_1387, lr_1447, lt_1459, ll_1459, lr_1455, lt_1461, ll_1461, lr_1461, lt_1463, ll_1463, lr_1462, lt_1471, ll_1471, lr_1456, lt_1479, ll_1479, lr_1479, lt_1481, ll_1481, lr_1480, lt_1489, ll_1489, lr_1457, lt_1497, ll_1497, lr_1497, lt_1499, ll_1499, lr_1498, lt_1507, ll_1507, lr_1458, lt_1515, ll_1515, lr_1515, lt_1520, ll_1520, lr_1516, lt_1580, ll_1580, lr_1517, lt_1640, ll_1640, lr_1518, lt_1700, ll_1700, lr_1519, lt_1760, ll_1760]
  unfold okL at tail hbad
  (repeat' (first | (with_reducible refine And.intro ?_ ?_) | (with_reducible apply sp_within_a) | (with_reducible apply sp_within_b) | (with_reducible apply sp_in_a) | (with_reducible apply sp_in_b) | (with_reducible apply sp_isSheet_a) | (with_reducible apply sp_isSheet_b) | (with_reducible apply sp_isSide_a) | (with_reducible apply sp_isSide_b) | (with_reducible intro _))) <;> first | exact hbad (by omega) | exact tail (by omega) | (exfalso; omega)
theorem mo_left (l : Launch) {r i n h b w : Int} (hi : hv_I i) {x : hm} (hI : B1 x) {Q : Int → hm → Prop} (hbad : ¬ okL r n h b w → ∀ y : hm, (∀ a, a ≠ 5723 → y a = x a) → Q (-1000001) y) (hnul : ∀ k : Nat, r = k → k < 8 → okL r n h b w → x (5755 + k) < 0 → ∀ y : hm, y 5724 = 1 → (∀ a, a ≠ 5723 ∧ a ≠ 5724 → y a = x a) → Q (-1000011) y) (hpl : ∀ k : Nat, r = k → k < 8 → okL r n h b w → 0 ≤ x (5755 + k) → ¬ (0 ≤ i ∧ i + n ≤ x (5763 + k)) → ∀ y : hm, y 5724 = 2 → (∀ a, a ≠ 5723 ∧ a ≠ 5724 → y a = x a) → Q (-1000012) y)
    (hok : ∀ k j m : Nat, r = k → k < 8 → i = j → n = m → okL r n h b w → 0 ≤ x (5755 + k) → i + n ≤ x (5763 + k) → ∀ y : hm, y 5724 = 0 → (∀ a, a ≠ 5723 ∧ a ≠ 5724 → y a = x a) → Q (F_left x ((h + b).tdiv 2) m (5771 + 40 * k + j) w) y) : hm_I l m_X10_left 3 [Vr 5723, Vi r, Vi i, Vi n, Vi h, Vi b, Vi w] x Q := by
  have F : ∀ a, a ≠ 5723 → hh_upd x 5723 0 a = x a := fun a ha => hh_upd_ne ha
  unfold okL at hbad hnul hpl hok
  refine hr_X10_left l (Nat.le_of_ble_eq_true rfl) ?_
  intro At h130 h144
  simp only [hb_X10_left_67, hb_X10_left_105, hb_X10_left_314, hb_X10_left_312, hb_X10_left_307, hb_X10_left_301, hb_X10_left_296, hb_X10_left_291, hb_X10_left_285, hb_X10_left_283, hb_X10_left_281, hb_X10_left_276, hb_X10_left_267, hb_X10_left_260, hb_X10_left_265, hb_X10_left_253, hb_X10_left_237, hb_X10_left_232, hb_X10_left_224, hb_X10_left_222, hb_X10_left_215, hb_X10_left_208, hb_X10_left_201, hb_X10_left_197, hb_X10_left_191, hb_X10_left_184, hb_X10_left_183, hb_X10_left_179, hb_X10_left_155, hb_X10_left_150, hb_X10_left_144, hb_X10_left_137, hb_X10_left_130, hb_X10_left_111, hb_X10_left_89, hb_X10_left_85, hb_X10_left_79, hb_X10_left_70, hb_X10_left_54, hb_X10_left_37, hb_X10_left_24, hb_X10_left_12, hb_X10_left_0, hc_iconst, hc_lconst, hc_iload, hc_lload, hc_aload, hc_istore, hc_astore, hc_lstore, hc_iinc, hc_dup, hc_dup2, hc_pop, hc_iadd, hc_isub, hc_imul, hc_iaddw, hc_isubw, hc_imulw, hc_inegw, hc_idiv, hc_irem, hc_ineg, hc_b2, hc_b1, hc_i2l, hc_l2i, hc_ladd, hc_l2, hc_lsh, hc_lcmp, hc_if, hc_icmp, hc_jump, hc_getI, hc_getR, hc_putI, hc_putZ, hc_xald, hc_iast, hc_bast, hc_zast, hc_aald, hc_alen, hc_copy, hc_gets, hc_getsI, hc_sald, hc_ldcs, hc_sval, hc_scod, hc_slen, hc_sbald, hc_callI, hc_callL, hc_callV, hc_max, hc_min, hc_abs, hc_ireturn, hc_zreturn, hc_creturn, hc_lreturn, hc_return, hc_none, hc_switch, hv_sw, hv_get, hv_set, hv_set2, hv_mask, hv_fr, hv_noL, hv_pop, hv_pk, hv_isO, hv_isS, hv_any, hv_w, hv_cat, he_nil, he_i, he_r, he_l, hv_repl_0, hv_repl_s, if_true, if_false, and_true, true_and, and_self, Nat.zero_add, Nat.add_zero, Nat.reduceAdd, Nat.reduceLeDiff, List.length_cons, List.length_nil, Int.toNat_natCast, Bool.false_eq_true, reduceIte, Int.toNat_zero, Int.toNat_one, Int.reduceToNat, or_true, true_or, Int.reduceEq, Int.reduceLT, Int.reduceLE, Int.reduceNeg, Int.reduceAdd, Int.reduceSub, Int.reduceMul, Nat.reduceMul, Nat.reduceEqDiff, implies_true, false_implies, true_implies, not_true_eq_false, not_false_eq_true, ne_eq, or_false, false_or, and_false, false_and, or_self, Classical.not_not, Int.zero_add, Int.add_zero, lc_0, lc_22, lc_730, lc_902, lc_1074, lc_1447, lc_1824, lc_2081, lc_2135, lc_4258, lc_5723, lr_0, lt_14, ll_14, lr_2, lr_4, lr_5, lr_6, lr_7, lr_8, lt_1820, ll_1820, lr_9, lt_1822, ll_1822, lr_10, lr_11, lr_12, lr_13, lr_22, lt_30, ll_30, lr_1824, lt_1825, ll_1825, lr_2081, lt_2086, ll_2086, lr_2082, lt_2102, ll_2102, lr_2083, lt_2118, ll_2118, lr_2135, lt_2137, ll_2137, lr_4263, lt_4265, ll_4265, lr_5725, lt_5755, ll_5755, lr_5726, lt_5763, ll_5763, lr_5727, lt_5771, ll_5771, lr_5728, lt_6091, ll_6091, lr_5729, lt_6227, ll_6227, lr_5731, lt_6363, ll_6363, lr_5732, lt_6733, ll_6733, lr_5743, lt_7433, ll_7433, lr_5744, lt_7435, ll_7435, lr_5745, lt_7805, ll_7805, lr_5746, lt_7809, ll_7809, lr_5747, lt_8065, ll_8065, lr_5748, lt_8165, ll_8165, lr_5750, lt_8265, ll_8265, lr_5751, lt_8267, ll_8267, lr_5752, lt_8539, ll_8539, lr_5753, lt_9279, ll_9279, lr_731, lt_733, ll_733, lr_732, lt_899, ll_899, lr_903, lt_905, ll_905, lr_904, lt_1071, ll_1071, lr_1074, lt_1086, ll_1086, lr_1082, lt_1088, ll_1088, lr_1088, lt_1090, ll_1090, lr_1089, lt_1098, ll_1098, lr_1083, lt_1106, ll_1106, lr_1106, lt_1108, ll_1108, lr_1107, lt_1116, ll_1116, lr_1084, lt_1124, ll_1124, lr_1124, lt_1126, ll_1126, lr_1125, lt_1134, ll_1134, lr_1085, lt_1142, ll_1142, lr_1142, lt_1147, ll_1147, lr_1143, lt_1207, ll_1207, lr_1144, lt_1267, ll_1267, lr_1145, lt_1327, ll_1327, lr_1146, lt_1387, ll_1387, lr_1447, lt_1459, ll_1459, lr_1455, lt_1461, ll_1461, lr_1461, lt_1463, ll_1463, lr_1462, lt_1471, ll_1471, lr_1456, lt_1479, ll_1479, lr_1479, lt_1481, ll_1481, lr_1480, lt_1489, ll_1489, lr_1457, lt_1497, ll_1497, lr_1497, lt_1499, ll_1499, lr_1498, lt_1507, ll_1507, lr_1458, lt_1515, ll_1515, lr_1515, lt_1520, ll_1520, lr_1516, lt_1580, ll_1580, lr_1517, lt_1640, ll_1640, lr_1518, lt_1700, ll_1700, lr_1519, lt_1760, ll_1760]
  refine sp_isSheet_a l (fun s0 s1 => ?_) (fun g => hbad (by omega) _ F)
  refine sp_in_a l (fun n0 n1 => ?_) (fun g => hbad (by omega) _ F)
  refine sp_in_a l (fun q0 q1 => ?_) (fun g => hbad (by omega) _ F)
  refine ⟨⟨by omega, by omega⟩, ?_⟩
  refine sp_in_a l (fun b0 b1 => ?_) (fun g => hbad (by omega) _ F)
  refine sp_in_b l (fun w0 w1 => ?_) (fun g => hbad (by omega) _ F)
  obtain ⟨k, rfl⟩ := Int.eq_ofNat_of_zero_le s0
  have hk : k < 8 := by omega
  have hk1 := hI k hk
  have G2 : ∀ v a, a ≠ 5723 ∧ a ≠ 5724 → hh_upd (hh_upd x 5723 0) 5724 v a = x a := fun v a ha => by rw [hh_upd_ne ha.2]; exact F a ha.1
  rw [Int.toNat_natCast, F _ (by omega), F _ (by omega)]
  have P : (0 ≤ (k : Int) ∧ (k : Int) < 8) ∧ (1 ≤ n ∧ n ≤ 20) ∧ (1 ≤ h ∧ h ≤ 999) ∧ (h < b ∧ b ≤ 1999) ∧ 0 ≤ w ∧ w < 3 := by omega
  obtain ⟨hi1, hi2⟩ := hi
  refine ⟨⟨by omega, by omega⟩, fun h0 => ⟨fun i0 => sp_finding l (by omega) (hpl k rfl hk P h0 (by omega) _ (hh_upd_same _ _ _) (G2 2)), fun i0 => ⟨⟨by omega, by omega⟩, ⟨by omega, by omega⟩, fun c => ?_, fun c => ?_⟩⟩, fun h0 => sp_finding l (by omega) (hnul k rfl hk P (by omega) _ (hh_upd_same _ _ _) (G2 1))⟩
  · rw [hv_cmp_le] at c
    obtain ⟨j, rfl⟩ := Int.eq_ofNat_of_zero_le (show 0 ≤ i by omega)
    obtain ⟨m, rfl⟩ := Int.eq_ofNat_of_zero_le (show 0 ≤ n by omega)
    have hok := hok k j m rfl hk rfl rfl P h0 c (hh_upd (hh_upd x 5723 0) 5724 0) (hh_upd_same _ _ _) (G2 0)
    have G := G2 0
    generalize hh_upd (hh_upd x 5723 0) 5724 0 = y at G hok ⊢
    have ht : (h + b).tdiv 2 = (h + b) / 2 := Int.tdiv_eq_ediv_of_nonneg (by omega)
    have out : ∀ g : Nat, g ≤ 10 → At 130 [some (Vr 5723), some (Vi k), some (Vi j), some (Vi m), some (Vi h), some (Vi b), some (Vi w), some (Vi (stL x ((h + b).tdiv 2) m (5771 + 40 * k + j) g).1), some (Vi (stL x ((h + b).tdiv 2) m (5771 + 40 * k + j) g).2.1), some (Vi (stL x ((h + b).tdiv 2) m (5771 + 40 * k + j) g).2.2), some (Vi g), none, none, none] [] y := by
      refine lp_m (fun g : Nat => 10 - g) ?_
      intro g hg ih
      refine h130 _ _ _ ?_
      simp only [hb_X10_left_67, hb_X10_left_105, hb_X10_left_314, hb_X10_left_312, hb_X10_left_307, hb_X10_left_301, hb_X10_left_296, hb_X10_left_291, hb_X10_left_285, hb_X10_left_283, hb_X10_left_281, hb_X10_left_276, hb_X10_left_267, hb_X10_left_260, hb_X10_left_265, hb_X10_left_253, hb_X10_left_237, hb_X10_left_232, hb_X10_left_224, hb_X10_left_222, hb_X10_left_215, hb_X10_left_208, hb_X10_left_201, hb_X10_left_197, hb_X10_left_191, hb_X10_left_184, hb_X10_left_183, hb_X10_left_179, hb_X10_left_155, hb_X10_left_150, hb_X10_left_144, hb_X10_left_137, hb_X10_left_130, hb_X10_left_111, hb_X10_left_89, hb_X10_left_85, hb_X10_left_79, hb_X10_left_70, hb_X10_left_54, hb_X10_left_37, hb_X10_left_24, hb_X10_left_12, hb_X10_left_0, hc_iconst, hc_lconst, hc_iload, hc_lload, hc_aload, hc_istore, hc_astore, hc_lstore, hc_iinc, hc_dup, hc_dup2, hc_pop, hc_iadd, hc_isub, hc_imul, hc_iaddw, hc_isubw, hc_imulw, hc_inegw, hc_idiv, hc_irem, hc_ineg, hc_b2, hc_b1, hc_i2l, hc_l2i, hc_ladd, hc_l2, hc_lsh, hc_lcmp, hc_if, hc_icmp, hc_jump, hc_getI, hc_getR, hc_putI, hc_putZ, hc_xald, hc_iast, hc_bast, hc_zast, hc_aald, hc_alen, hc_copy, hc_gets, hc_getsI, hc_sald, hc_ldcs, hc_sval, hc_scod, hc_slen, hc_sbald, hc_callI, hc_callL, hc_callV, hc_max, hc_min, hc_abs, hc_ireturn, hc_zreturn, hc_creturn, hc_lreturn, hc_return, hc_none, hc_switch, hv_sw, hv_get, hv_set, hv_set2, hv_mask, hv_fr, hv_noL, hv_pop, hv_pk, hv_isO, hv_isS, hv_any, hv_w, hv_cat, he_nil, he_i, he_r, he_l, hv_repl_0, hv_repl_s, if_true, if_false, and_true, true_and, and_self, Nat.zero_add, Nat.add_zero, Nat.reduceAdd, Nat.reduceLeDiff, List.length_cons, List.length_nil, Int.toNat_natCast, Bool.false_eq_true, reduceIte, Int.toNat_zero, Int.toNat_one, Int.reduceToNat, or_true, true_or, Int.reduceEq, Int.reduceLT, Int.reduceLE, Int.reduceNeg, Int.reduceAdd, Int.reduceSub, Int.reduceMul, Nat.reduceMul, Nat.reduceEqDiff, implies_true, false_implies, true_implies, not_true_eq_false, not_false_eq_true, ne_eq, or_false, false_or, and_false, false_and, or_self, Classical.not_not, Int.zero_add, Int.add_zero, lc_0, lc_22, lc_730, lc_902, lc_1074, lc_1447, lc_1824, lc_2081, lc_2135, lc_4258, lc_5723, lr_0, lt_14, ll_14, lr_2, lr_4, lr_5, lr_6, lr_7, lr_8, lt_1820, ll_1820, lr_9, lt_1822, ll_1822, lr_10, lr_11, lr_12, lr_13, lr_22, lt_30, ll_30, lr_1824, lt_1825, ll_1825, lr_2081, lt_2086, ll_2086, lr_2082, lt_2102, ll_2102, lr_2083, lt_2118, ll_2118, lr_2135, lt_2137, ll_2137, lr_4263, lt_4265, ll_4265, lr_5725, lt_5755, ll_5755, lr_5726, lt_5763, ll_5763, lr_5727, lt_5771, ll_5771, lr_5728, lt_6091, ll_6091, lr_5729, lt_6227, ll_6227, lr_5731, lt_6363, ll_6363, lr_5732, lt_6733, ll_6733, lr_5743, lt_7433, ll_7433, lr_5744, lt_7435, ll_7435, lr_5745, lt_7805, ll_7805, lr_5746, lt_7809, ll_7809, lr_5747, lt_8065, ll_8065, lr_5748, lt_8165, ll_8165, lr_5750, lt_8265, ll_8265, lr_5751, lt_8267, ll_8267, lr_5752, lt_8539, ll_8539, lr_5753, lt_9279, ll_9279, lr_731, lt_733, ll_733, lr_732, lt_899, ll_899, lr_903, lt_905, ll_905, lr_904, lt_1071, ll_1071, lr_1074, lt_1086, ll_1086, lr_1082, lt_1088, ll_1088, lr_1088, lt_1090, ll_1090, lr_1089, lt_1098, ll_1098, lr_1083, lt_1106, ll_1106, lr_1106, lt_1108, ll_1108, lr_1107, lt_1116, ll_1116, lr_1084, lt_1124, ll_1124, lr_1124, lt_1126, ll_1126, lr_1125, lt_1134, ll_1134, lr_1085, lt_1142, ll_1142, lr_1142, lt_1147, ll_1147, lr_1143, lt_1207, ll_1207, lr_1144, lt_1267, ll_1267, lr_1145, lt_1327, ll_1327, lr_1146, lt_1387, ll_1387, lr_1447, lt_1459, ll_1459, lr_1455, lt_1461, ll_1461, lr_1461, lt_1463, ll_1463, lr_1462, lt_1471, ll_1471, lr_1456, lt_1479, ll_1479, lr_1479, lt_1481, ll_1481, lr_1480, lt_1489, ll_1489, lr_1457, lt_1497, ll_1497, lr_1497, lt_1499, ll_1499, lr_1498, lt_1507, ll_1507, lr_1458, lt_1515, ll_1515, lr_1515, lt_1520, ll_1520, lr_1516, lt_1580, ll_1580, lr_1517, lt_1640, ll_1640, lr_1518, lt_1700, ll_1700, lr_1519, lt_1760, ll_1760]
      refine ⟨fun g1 => ?_, fun g1 => ?_⟩
      · have : g = 10 := by omega
        subst this
        unfold F_left at hok
        refine ⟨fun w0 => ⟨fun w1 => ?_, fun w1 => ?_⟩, fun w0 => ?_⟩
        · rw [if_neg w0, if_neg w1] at hok; exact hok
        · rw [if_neg w0, if_pos w1] at hok; exact hok
        · rw [if_pos w0] at hok; exact hok
      · have ih' := ih (g + 1) (by omega) (by show 10 - (g + 1) < 10 - g; omega)
        rw [stL_s] at ih'
        generalize stL x ((h + b).tdiv 2) m (5771 + 40 * k + j) g = S at ih' ⊢
        obtain ⟨S1, S2, S3⟩ := S
        have inn : ∀ q : Nat × Int, (q.1 ≤ m ∧ -1 ≤ q.2 ∧ q.2 ≤ 9 ∧ ((q.2 < 0 ∧ bl x ((h + b).tdiv 2) m (5771 + 40 * k + j) g = -1) ∨ (0 ≤ q.2 ∧ bl x ((h + b).tdiv 2) m (5771 + 40 * k + j) g = bl x ((h + b).tdiv 2) (m - q.1) (5771 + 40 * k + (j + q.1)) q.2))) → At 144 [some (Vr 5723), some (Vi k), some (Vi j), some (Vi m), some (Vi h), some (Vi b), some (Vi w), some (Vi S1), some (Vi S2), some (Vi S3), some (Vi g), some (Vi q.2), some (Vi q.1), none] [] y := by
          refine lp_m (fun q : Nat × Int => m - q.1) ?_
          rintro ⟨u, v⟩ ⟨a1, a2, a3, a4⟩ ih2
          dsimp only at a1 a2 a3 a4
          have done : (bl x ((h + b).tdiv 2) m (5771 + 40 * k + j) g = v) → hb_X10_left_232 l At Q [some (Vr 5723), some (Vi k), some (Vi j), some (Vi m), some (Vi h), some (Vi b), some (Vi w), some (Vi S1), some (Vi S2), some (Vi S3), some (Vi g), some (Vi v), none, none] [] y := by
            intro er
            simp only [hb_X10_left_67, hb_X10_left_105, hb_X10_left_314, hb_X10_left_312, hb_X10_left_307, hb_X10_left_301, hb_X10_left_296, hb_X10_left_291, hb_X10_left_285, hb_X10_left_283, hb_X10_left_281, hb_X10_left_276, hb_X10_left_267, hb_X10_left_260, hb_X10_left_265, hb_X10_left_253, hb_X10_left_237, hb_X10_left_232, hb_X10_left_224, hb_X10_left_222, hb_X10_left_215, hb_X10_left_208, hb_X10_left_201, hb_X10_left_197, hb_X10_left_191, hb_X10_left_184, hb_X10_left_183, hb_X10_left_179, hb_X10_left_155, hb_X10_left_150, hb_X10_left_144, hb_X10_left_137, hb_X10_left_130, hb_X10_left_111, hb_X10_left_89, hb_X10_left_85, hb_X10_left_79, hb_X10_left_70, hb_X10_left_54, hb_X10_left_37, hb_X10_left_24, hb_X10_left_12, hb_X10_left_0, hc_iconst, hc_lconst, hc_iload, hc_lload, hc_aload, hc_istore, hc_astore, hc_lstore, hc_iinc, hc_dup, hc_dup2, hc_pop, hc_iadd, hc_isub, hc_imul, hc_iaddw, hc_isubw, hc_imulw, hc_inegw, hc_idiv, hc_irem, hc_ineg, hc_b2, hc_b1, hc_i2l, hc_l2i, hc_ladd, hc_l2, hc_lsh, hc_lcmp, hc_if, hc_icmp, hc_jump, hc_getI, hc_getR, hc_putI, hc_putZ, hc_xald, hc_iast, hc_bast, hc_zast, hc_aald, hc_alen, hc_copy, hc_gets, hc_getsI, hc_sald, hc_ldcs, hc_sval, hc_scod, hc_slen, hc_sbald, hc_callI, hc_callL, hc_callV, hc_max, hc_min, hc_abs, hc_ireturn, hc_zreturn, hc_creturn, hc_lreturn, hc_return, hc_none, hc_switch, hv_sw, hv_get, hv_set, hv_set2, hv_mask, hv_fr, hv_noL, hv_pop, hv_pk, hv_isO, hv_isS, hv_any, hv_w, hv_cat, he_nil, he_i, he_r, he_l, hv_repl_0, hv_repl_s, if_true, if_false, and_true, true_and, and_self, Nat.zero_add, Nat.add_zero, Nat.reduceAdd, Nat.reduceLeDiff, List.length_cons, List.length_nil, Int.toNat_natCast, Bool.false_eq_true, reduceIte, Int.toNat_zero, Int.toNat_one, Int.reduceToNat, or_true, true_or, Int.reduceEq, Int.reduceLT, Int.reduceLE, Int.reduceNeg, Int.reduceAdd, Int.reduceSub, Int.reduceMul, Nat.reduceMul, Nat.reduceEqDiff, implies_true, false_implies, true_implies, not_true_eq_false, not_false_eq_true, ne_eq, or_false, false_or, and_false, false_and, or_self, Classical.not_not, Int.zero_add, Int.add_zero, lc_0, lc_22, lc_730, lc_902, lc_1074, lc_1447, lc_1824, lc_2081, lc_2135, lc_4258, lc_5723, lr_0, lt_14, ll_14, lr_2, lr_4, lr_5, lr_6, lr_7, lr_8, lt_1820, ll_1820, lr_9, lt_1822, ll_1822, lr_10, lr_11, lr_12, lr_13, lr_22, lt_30, ll_30, lr_1824, lt_1825, ll_1825, lr_2081, lt_2086, ll_2086, lr_2082, lt_2102, ll_2102, lr_2083, lt_2118, ll_2118, lr_2135, lt_2137, ll_2137, lr_4263, lt_4265, ll_4265, lr_5725, lt_5755, ll_5755, lr_5726, lt_5763, ll_5763, lr_5727, lt_5771, ll_5771, lr_5728, lt_6091, ll_6091, lr_5729, lt_6227, ll_6227, lr_5731, lt_6363, ll_6363, lr_5732, lt_6733, ll_6733, lr_5743, lt_7433, ll_7433, lr_5744, lt_7435, ll_7435, lr_5745, lt_7805, ll_7805, lr_5746, lt_7809, ll_7809, lr_5747, lt_8065, ll_8065, lr_5748, lt_8165, ll_8165, lr_5750, lt_8265, ll_8265, lr_5751, lt_8267, ll_8267, lr_5752, lt_8539, ll_8539, lr_5753, lt_9279, ll_9279, lr_731, lt_733, ll_733, lr_732, lt_899, ll_899, lr_903, lt_905, ll_905, lr_904, lt_1071, ll_1071, lr_1074, lt_1086, ll_1086, lr_1082, lt_1088, ll_1088, lr_1088, lt_1090, ll_1090, lr_1089, lt_1098, ll_1098, lr_1083, lt_1106, ll_1106, lr_1106, lt_1108, ll_1108, lr_1107, lt_1116, ll_1116, lr_1084, lt_1124, ll_1124, lr_1124, lt_1126, ll_1126, lr_1125, lt_1134, ll_1134, lr_1085, lt_1142, ll_1142, lr_1142, lt_1147, ll_1147, lr_1143, lt_1207, ll_1207, lr_1144, lt_1267, ll_1267, lr_1145, lt_1327, ll_1327, lr_1146, lt_1387, ll_1387, lr_1447, lt_1459, ll_1459, lr_1455, lt_1461, ll_1461, lr_1461, lt_1463, ll_1463, lr_1462, lt_1471, ll_1471, lr_1456, lt_1479, ll_1479, lr_1479, lt_1481, ll_1481, lr_1480, lt_1489, ll_1489, lr_1457, lt_1497, ll_1497, lr_1497, lt_1499, ll_1499, lr_1498, lt_1507, ll_1507, lr_1458, lt_1515, ll_1515, lr_1515, lt_1520, ll_1520, lr_1516, lt_1580, ll_1580, lr_1517, lt_1640, ll_1640, lr_1518, lt_1700, ll_1700, lr_1519, lt_1760, ll_1760]
            unfold stp at ih'
            rw [er] at ih'
            dsimp only at ih' ⊢
            refine ⟨fun g2 => ⟨⟨by omega, by omega⟩, ?_⟩, fun g2 => ?_⟩
            · rw [if_pos (by omega)] at ih'
              exact ih'
            · rw [if_neg (by omega)] at ih'
              refine ⟨fun g3 => ?_, fun g3 => ⟨fun g4 => ?_, fun g4 => ?_⟩⟩
              · rw [if_pos (show S2 = -1000000 ∨ v < S2 from Or.inl g3)] at ih'
                refine ⟨fun g5 => ?_, fun g5 => ?_⟩
                · rw [if_neg (by omega)] at ih'
                  exact ⟨⟨by omega, by omega⟩, ih'⟩
                · rw [if_pos (by omega)] at ih'
                  exact ⟨⟨by omega, by omega⟩, ih'⟩
              · rw [if_neg (show ¬ (S2 = -1000000 ∨ v < S2) by omega)] at ih'
                refine ⟨fun g5 => ?_, fun g5 => ?_⟩
                · rw [if_neg (by omega)] at ih'
                  exact ⟨⟨by omega, by omega⟩, ih'⟩
                · rw [if_pos (by omega)] at ih'
                  exact ⟨⟨by omega, by omega⟩, ih'⟩
              · rw [if_pos (show S2 = -1000000 ∨ v < S2 by omega)] at ih'
                refine ⟨fun g5 => ?_, fun g5 => ?_⟩
                · rw [if_neg (by omega)] at ih'
                  exact ⟨⟨by omega, by omega⟩, ih'⟩
                · rw [if_pos (by omega)] at ih'
                  exact ⟨⟨by omega, by omega⟩, ih'⟩
          refine h144 _ _ _ ?_
          simp only [hb_X10_left_144, hb_X10_left_150, hb_X10_left_155, hb_X10_left_179, hb_X10_left_183, hb_X10_left_184, hb_X10_left_191, hb_X10_left_197, hb_X10_left_201, hb_X10_left_208, hb_X10_left_215, hb_X10_left_222, hb_X10_left_224, hc_iconst, hc_lconst, hc_iload, hc_lload, hc_aload, hc_istore, hc_astore, hc_lstore, hc_iinc, hc_dup, hc_dup2, hc_pop, hc_iadd, hc_isub, hc_imul, hc_iaddw, hc_isubw, hc_imulw, hc_inegw, hc_idiv, hc_irem, hc_ineg, hc_b2, hc_b1, hc_i2l, hc_l2i, hc_ladd, hc_l2, hc_lsh, hc_lcmp, hc_if, hc_icmp, hc_jump, hc_getI, hc_getR, hc_putI, hc_putZ, hc_xald, hc_iast, hc_bast, hc_zast, hc_aald, hc_alen, hc_copy, hc_gets, hc_getsI, hc_sald, hc_ldcs, hc_sval, hc_scod, hc_slen, hc_sbald, hc_callI, hc_callL, hc_callV, hc_max, hc_min, hc_abs, hc_ireturn, hc_zreturn, hc_creturn, hc_lreturn, hc_return, hc_none, hc_switch, hv_sw, hv_get, hv_set, hv_set2, hv_mask, hv_fr, hv_noL, hv_pop, hv_pk, hv_isO, hv_isS, hv_any, hv_w, hv_cat, he_nil, he_i, he_r, he_l, hv_repl_0, hv_repl_s, if_true, if_false, and_true, true_and, and_self, Nat.zero_add, Nat.add_zero, Nat.reduceAdd, Nat.reduceLeDiff, List.length_cons, List.length_nil, Int.toNat_natCast, Bool.false_eq_true, reduceIte, Int.toNat_zero, Int.toNat_one, Int.reduceToNat, or_true, true_or, Int.reduceEq, Int.reduceLT, Int.reduceLE, Int.reduceNeg, Int.reduceAdd, Int.reduceSub, Int.reduceMul, Nat.reduceMul, Nat.reduceEqDiff, implies_true, false_implies, true_implies, not_true_eq_false, not_false_eq_true, ne_eq, or_false, false_or, and_false, false_and, or_self, Classical.not_not, Int.zero_add, Int.add_zero, lc_0, lc_22, lc_730, lc_902, lc_1074, lc_1447, lc_1824, lc_2081, lc_2135, lc_4258, lc_5723, lr_0, lt_14, ll_14, lr_2, lr_4, lr_5, lr_6, lr_7, lr_8, lt_1820, ll_1820, lr_9, lt_1822, ll_1822, lr_10, lr_11, lr_12, lr_13, lr_22, lt_30, ll_30, lr_1824, lt_1825, ll_1825, lr_2081, lt_2086, ll_2086, lr_2082, lt_2102, ll_2102, lr_2083, lt_2118, ll_2118, lr_2135, lt_2137, ll_2137, lr_4263, lt_4265, ll_4265, lr_5725, lt_5755, ll_5755, lr_5726, lt_5763, ll_5763, lr_5727, lt_5771, ll_5771, lr_5728, lt_6091, ll_6091, lr_5729, lt_6227, ll_6227, lr_5731, lt_6363, ll_6363, lr_5732, lt_6733, ll_6733, lr_5743, lt_7433, ll_7433, lr_5744, lt_7435, ll_7435, lr_5745, lt_7805, ll_7805, lr_5746, lt_7809, ll_7809, lr_5747, lt_8065, ll_8065, lr_5748, lt_8165, ll_8165, lr_5750, lt_8265, ll_8265, lr_5751, lt_8267, ll_8267, lr_5752, lt_8539, ll_8539, lr_5753, lt_9279, ll_9279, lr_731, lt_733, ll_733, lr_732, lt_899, ll_899, lr_903, lt_905, ll_905, lr_904, lt_1071, ll_1071, lr_1074, lt_1086, ll_1086, lr_1082, lt_1088, ll_1088, lr_1088, lt_1090, ll_1090, lr_1089, lt_1098, ll_1098, lr_1083, lt_1106, ll_1106, lr_1106, lt_1108, ll_1108, lr_1107, lt_1116, ll_1116, lr_1084, lt_1124, ll_1124, lr_1124, lt_1126, ll_1126, lr_1125, lt_1134, ll_1134, lr_1085, lt_1142, ll_1142, lr_1142, lt_1147, ll_1147, lr_1143, lt_1207, ll_1207, lr_1144, lt_1267, ll_1267, lr_1145, lt_1327, ll_1327, lr_1146, lt_1387, ll_1387, lr_1447, lt_1459, ll_1459, lr_1455, lt_1461, ll_1461, lr_1461, lt_1463, ll_1463, lr_1462, lt_1471, ll_1471, lr_1456, lt_1479, ll_1479, lr_1479, lt_1481, ll_1481, lr_1480, lt_1489, ll_1489, lr_1457, lt_1497, ll_1497, lr_1497, lt_1499, ll_1499, lr_1498, lt_1507, ll_1507, lr_1458, lt_1515, ll_1515, lr_1515, lt_1520, ll_1520, lr_1516, lt_1580, ll_1580, lr_1517, lt_1640, ll_1640, lr_1518, lt_1700, ll_1700, lr_1519, lt_1760, ll_1760]
          refine ⟨fun g1 => done ?_, fun g1 => ⟨fun g2 => done ?_, fun g2 => ?_⟩⟩
          · have : u = m := by omega
            subst this
            rw [Nat.sub_self] at a4
            rcases a4 with a | a
            · omega
            · exact a.2
          · omega
          · have hu : u < m := by omega
            have d := (show bl x ((h + b).tdiv 2) m (5771 + 40 * k + j) g = bl x ((h + b).tdiv 2) (m - u) (5771 + 40 * k + (j + u)) v by
              rcases a4 with a | a
              · omega
              · exact a.2)
            rw [show m - u = (m - (u + 1)) + 1 by omega, bl_s, show 5771 + 40 * k + (j + u) + 1 = 5771 + 40 * k + (j + (u + 1)) by omega] at d
            have ei : 5771 + (40 * (k : Int) + j + u).toNat = 5771 + 40 * k + (j + u) := by omega
            rw [ei, G _ (by omega)]
            have st : ∀ v' : Int, -1 ≤ v' → v' ≤ 9 → ((v' < 0 ∧ bl x ((h + b).tdiv 2) m (5771 + 40 * k + j) g = -1) ∨ (0 ≤ v' ∧ bl x ((h + b).tdiv 2) m (5771 + 40 * k + j) g = bl x ((h + b).tdiv 2) (m - (u + 1)) (5771 + 40 * k + (j + (u + 1))) v')) → At 144 [some (Vr 5723), some (Vi k), some (Vi j), some (Vi m), some (Vi h), some (Vi b), some (Vi w), some (Vi S1), some (Vi S2), some (Vi S3), some (Vi g), some (Vi v'), some (Vi (u + 1 : Nat)), none] [] y := fun v' h1 h2 h3 => ih2 (u + 1, v') ⟨by show u + 1 ≤ m; omega, h1, h2, h3⟩ (by show m - (u + 1) < m - u; omega)
            have jm : j + m ≤ 40 := by have := hk1.2.2.2; omega
            refine ⟨⟨by omega, by omega⟩, ⟨by omega, by omega⟩, ⟨by omega, by omega⟩, ⟨by omega, by omega⟩, ⟨by omega, by omega⟩, fun g3 => ?_, fun g3 => ?_⟩
            · rw [if_neg (by omega)] at d
              refine ⟨fun g4 => ⟨⟨by omega, by omega⟩, st 9 (by omega) (by omega) (Or.inr ⟨by omega, ?_⟩)⟩, fun g4 => ⟨⟨by omega, by omega⟩, ⟨by omega, by omega⟩, st (v + 1) (by omega) (by omega) (Or.inr ⟨by omega, ?_⟩)⟩⟩
              · rw [if_neg (by omega)] at d; exact d
              · rw [if_pos (by omega)] at d; exact d
            · rw [if_pos (by omega)] at d
              refine ⟨fun g4 => ⟨⟨by omega, by omega⟩, ⟨by omega, by omega⟩, st (v - 2) (by omega) (by omega) (Or.inr ⟨by omega, ?_⟩)⟩, fun g4 => ⟨⟨by omega, by omega⟩, st (-1) (by omega) (by omega) (Or.inl ⟨by omega, ?_⟩)⟩⟩
              · rw [if_neg (by omega)] at d; exact d
              · rw [if_pos (by omega)] at d; exact d
        refine inn (0, g) ?_
        exact ⟨Nat.zero_le _, by show -1 ≤ (g : Int); omega, by show (g : Int) ≤ 9; omega, Or.inr ⟨by show 0 ≤ (g : Int); omega, rfl⟩⟩
    exact out 0 (Nat.zero_le _)
  · rw [hv_cmp_le] at c
    exact sp_finding l (by omega) (hpl k rfl hk P h0 (by omega) _ (hh_upd_same _ _ _) (G2 2))
theorem F_left_congr {x y : hm} (h : ∀ a, 5724 < a → y a = x a) (T : Int) (n a : Nat) (w : Int) (ha : 5724 < a) : F_left y T n a w = F_left x T n a w := by
  have e : ∀ m, stL y T n a m = stL x T n a m := by
    intro m
    induction m with
    | zero => rfl
    | succ m ih => rw [stL_s, stL_s, ih, bl_congr h T n a m ha]
  unfold F_left
  rw [e]
theorem pr_left (l : Launch) {n0 : Nat} {x : hm} (hI : IV n0 x) {r i n h b w : Int} (hi : hv_I i) : hm_I l m_X9_left 3 [Vr 0, Vi r, Vi i, Vi n, Vi h, Vi b, Vi w] x (fun r1 x1 => hm_I l m_X10_left 3 [Vr 5723, Vi r, Vi i, Vi n, Vi h, Vi b, Vi w] x1 (fun r2 x2 => r1 = r2 ∧ IV (n0 + 1) x2)) := by
  obtain ⟨j1, j2, j3, j4, j5, j6, j7, j8, j9, j10⟩ := hI
  have k1 : ∀ k, k < 8 → I1k k x := j1
  unfold I1k at k1
  have fin : ∀ (v : Int) (y : hm), y 5724 = v → (∀ a, a ≠ 5723 ∧ a ≠ 5724 → y a = hh_upd x 1 v a) → IV (n0 + 1) y := by
    intro v y e1 G
    have F : ∀ a, a ≠ 1 ∧ a ≠ 5723 ∧ a ≠ 5724 → y a = x a := fun a ha => by rw [G a (by omega), hh_upd_ne (by omega)]
    have J2 : I2 y := by unfold I2; rw [G 1 (by omega), hh_upd_same, e1]
    exact ⟨(I1_congr (fun a ha => F a (by omega)) j1), J2, (I3_congr (fun a ha => F a (by omega)) j3), (I4_congr (fun a ha => F a (by omega)) j4), (I5_congr (fun a ha => F a (by omega)) j5), (I6_congr (by omega) (fun a ha => F a (by omega)) j6), (I7_congr (by omega) (fun a ha => F a (by omega)) j7), (I8_congr (fun a ha => F a (by omega)) j8), (I9_congr (fun a ha => F a (by omega)) j9), (I10_congr (fun a ha => F a (by omega)) j10)⟩
  have B : ∀ v, B1 (hh_upd x 1 v) := fun v => B1_congr (fun a ha => hh_upd_ne (by omega)) j1.B
  refine cl_left l j1 (fun g => ?_) (fun k e1 hk g h0 => ?_) (fun k e1 hk g h0 h2 => ?_) (fun k j m e1 hk e2 e3 hjm g h0 h2 => ?_)
  · refine mo_left l hi j1.B (fun _ y F => ⟨rfl, (I1_congr (fun a ha => F a (by omega)) j1), (I2_congr (fun a ha => F a (by omega)) j2), (I3_congr (fun a ha => F a (by omega)) j3), (I4_congr (fun a ha => F a (by omega)) j4), (I5_congr (fun a ha => F a (by omega)) j5), (I6_congr (by omega) (fun a ha => F a (by omega)) j6), (I7_congr (by omega) (fun a ha => F a (by omega)) j7), (I8_congr (fun a ha => F a (by omega)) j8), (I9_congr (fun a ha => F a (by omega)) j9), (I10_congr (fun a ha => F a (by omega)) j10)⟩) (fun k _ _ c => absurd c g) (fun k _ _ c => absurd c g) (fun k j m _ _ _ _ c => absurd c g)
  · have hk1 := k1 k hk
    refine mo_left l hi (B 1) (fun c => absurd g c) (fun k2 e2 hk2 c q y f1 f2 => ⟨rfl, fin 1 y f1 f2⟩) (fun k2 e2 hk2 c q1 => ?_) (fun k2 j2 m2 e2 hk2 a1 a2 c q1 => ?_)
    · rw [hh_upd_ne (by omega)] at q1
      have : k2 = k := by omega
      subst this
      omega
    · rw [hh_upd_ne (by omega)] at q1
      have : k2 = k := by omega
      subst this
      omega
  · have hk1 := k1 k hk
    refine mo_left l hi (B 2) (fun c => absurd g c) (fun k2 e2 hk2 c q => ?_) (fun k2 e2 hk2 c q1 q2 y f1 f2 => ⟨rfl, fin 2 y f1 f2⟩) (fun k2 j2 m2 e2 hk2 a1 a2 c q1 q2 => ?_)
    · rw [hh_upd_ne (by omega)] at q
      have : k2 = k := by omega
      subst this
      omega
    · rw [hh_upd_ne (by omega)] at q1 q2
      have : k2 = k := by omega
      subst this
      omega
  · have hk1 := k1 k hk
    refine mo_left l hi (B 0) (fun c => absurd g c) (fun k2 e2 hk2 c q => ?_) (fun k2 e2 hk2 c q1 q2 => ?_) (fun k2 j2 m2 e2 hk2 a1 a2 c q1 q2 y f1 f2 => ⟨?_, fin 0 y f1 f2⟩)
    · rw [hh_upd_ne (by omega)] at q
      have : k2 = k := by omega
      subst this
      omega
    · rw [hh_upd_ne (by omega)] at q1 q2
      have : k2 = k := by omega
      subst this
      omega
    · have : k2 = k := by omega
      subst this
      have : j2 = j := by omega
      subst this
      have : m2 = m := by omega
      subst this
      exact (F_left_congr (fun a ha => hh_upd_ne (by omega)) _ _ _ _ (by omega)).symm
