/-! a tenth: what the reference keeps of it -/
theorem sp_keepTenth (l : Launch) {y : hm} (hk : 0 ≤ y 6372 ∧ y 6372 ≤ 60) {Q : hm → Prop} (h : ∀ v : hm, (∀ k, 75 ≤ k → k < 370 → v (6363 + k) = y (6363 + (k - 5))) → v 6433 = y 6421 → v 6434 = y 6422 → v 6435 = y 7433 → v 6436 = y 7434 → v 6437 = y 6367 → v 6372 = (if y 6372 < 60 then y 6372 + 1 else y 6372) → (∀ a, ¬ (6433 ≤ a ∧ a < 6733) → a ≠ 6372 → v a = y a) → Q v) : hm_V l m_X10_keepTenth 1 [Vr 5723] y Q := by
  refine hr_X10_keepTenth l (Nat.le_of_ble_eq_true rfl) ?_
  intro At h4
  simp only [hb_X10_keepTenth_0, hc_iconst, hc_lconst, hc_iload, hc_lload, hc_aload, hc_istore, hc_astore, hc_lstore, hc_iinc, hc_dup, hc_dup2, hc_pop, hc_iadd, hc_isub, hc_imul, hc_iaddw, hc_isubw, hc_imulw, hc_inegw, hc_idiv, hc_irem, hc_ineg, hc_b2, hc_b1, hc_i2l, hc_l2i, hc_ladd, hc_l2, hc_lsh, hc_lcmp, hc_if, hc_icmp, hc_jump, hc_getI, hc_getR, hc_putI, hc_putZ, hc_xald, hc_iast, hc_bast, hc_zast, hc_aald, hc_alen, hc_copy, hc_gets, hc_getsI, hc_sald, hc_ldcs, hc_sval, hc_scod, hc_slen, hc_sbald, hc_callI, hc_callL, hc_callV, hc_max, hc_min, hc_abs, hc_ireturn, hc_zreturn, hc_creturn, hc_lreturn, hc_return, hc_none, hc_switch, hv_sw, hv_get, hv_set, hv_set2, hv_mask, hv_fr, hv_noL, hv_pop, hv_pk, hv_isO, hv_isS, hv_any, hv_w, hv_cat, he_nil, he_i, he_r, he_l, hv_repl_0, hv_repl_s, if_true, if_false, and_true, true_and, and_self, Nat.zero_add, Nat.add_zero, Nat.reduceAdd, Nat.reduceLeDiff, List.length_cons, List.length_nil, Int.toNat_natCast, Bool.false_eq_true, reduceIte, Int.toNat_zero, Int.toNat_one, Int.reduceToNat, or_true, true_or, Int.reduceEq, Int.reduceLT, Int.reduceLE, Int.reduceNeg, Int.reduceAdd, Int.reduceSub, Int.reduceMul, Nat.reduceMul, Nat.reduceEqDiff, implies_true, false_implies, true_implies, not_true_eq_false, not_false_eq_true, ne_eq, or_false, false_or, and_false, false_and, or_self, Classical.not_not, Int.zero_add, Int.add_zero, lc_0, lc_22, lc_730, lc_902, lc_1074, lc_1447, lc_1824, lc_2081, lc_2135, lc_4258, lc_5723, lr_0, lt_14, ll_14, lr_2, lr_4, lr_5, lr_6, lr_7, lr_8, lt_1820, ll_1820, lr_9, lt_1822, ll_1822, lr_10, lr_11, lr_12, lr_13, lr_22, lt_30, ll_30, lr_1824, lt_1825, ll_1825, lr_2081, lt_2086, ll_2086, lr_2082, lt_2102, ll_2102, lr_2083, lt_2118, ll_2118, lr_2135, lt_2137, ll_2137, lr_4263, lt_4265, ll_4265, lr_5725, lt_5755, ll_5755, lr_5726, lt_5763, ll_5763, lr_5727, lt_5771, ll_5771, lr_5728, lt_6091, ll_6091, lr_5729, lt_6227, ll_6227, lr_5731, lt_6363, ll_6363, lr_5732, lt_6733, ll_6733, lr_5743, lt_7433, ll_7433, lr_5744, lt_7435, ll_7435, lr_5745, lt_7805, ll_7805, lr_5746, lt_7809, ll_7809, lr_5747, lt_8065, ll_8065, lr_5748, lt_8165, ll_8165, lr_5750, lt_8265, ll_8265, lr_5751, lt_8267, ll_8267, lr_5752, lt_8539, ll_8539, lr_5753, lt_9279, ll_9279, lr_731, lt_733, ll_733, lr_732, lt_899, ll_899, lr_903, lt_905, ll_905, lr_904, lt_1071, ll_1071, lr_1074, lt_1086, ll_1086, lr_1082, lt_1088, ll_1088, lr_1088, lt_1090, ll_1090, lr_1089, lt_1098, ll_1098, lr_1083, lt_1106, ll_1106, lr_1106, lt_1108, ll_1108, lr_1107, lt_1116, ll_1116, lr_1084, lt_1124, ll_1124, lr_1124, lt_1126, ll_1126, lr_1125, lt_1134, ll_1134, lr_1085, lt_1142, ll_1142, lr_1142, lt_1147, ll_1147, lr_1143, lt_1207, ll_1207, lr_1144, lt_1267, ll_1267, lr_1145, lt_1327, ll_1327, lr_1146, lt_1387, ll_1387, lr_1447, lt_1459, ll_1459, lr_1455, lt_1461, ll_1461, lr_1461, lt_1463, ll_1463, lr_1462, lt_1471, ll_1471, lr_1456, lt_1479, ll_1479, lr_1479, lt_1481, ll_1481, lr_1480, lt_1489, ll_1489, lr_1457, lt_1497, ll_1497, lr_1497, lt_1499, ll_1499, lr_1498, lt_1507, ll_1507, lr_1458, lt_1515, ll_1515, lr_1515, lt_1520, ll_1520, lr_1516, lt_1580, ll_1580, lr_1517, lt_1640, ll_1640, lr_1518, lt_1700, ll_1700, lr_1519, lt_1760, ll_1760]
  have main : ∀ q : Nat × hm, (74 ≤ q.1 ∧ q.1 ≤ 369 ∧ (∀ k, q.1 < k → k < 370 → q.2 (6363 + k) = y (6363 + (k - 5))) ∧ ∀ a, ¬ (6363 + q.1 < a ∧ a < 6733) → q.2 a = y a) → At 4 [some (Vr 5723), some (Vi q.1)] [] q.2 := by
    refine lp_m (fun q : Nat × hm => q.1) ?_
    rintro ⟨j, v⟩ ⟨a0, a1, a2, a3⟩ ih
    dsimp only at a0 a1 a2 a3
    refine h4 _ _ _ ?_
    simp only [hb_X10_keepTenth_122, hb_X10_keepTenth_121, hb_X10_keepTenth_117, hb_X10_keepTenth_30, hb_X10_keepTenth_10, hb_X10_keepTenth_4, hb_X10_keepTenth_0, hc_iconst, hc_lconst, hc_iload, hc_lload, hc_aload, hc_istore, hc_astore, hc_lstore, hc_iinc, hc_dup, hc_dup2, hc_pop, hc_iadd, hc_isub, hc_imul, hc_iaddw, hc_isubw, hc_imulw, hc_inegw, hc_idiv, hc_irem, hc_ineg, hc_b2, hc_b1, hc_i2l, hc_l2i, hc_ladd, hc_l2, hc_lsh, hc_lcmp, hc_if, hc_icmp, hc_jump, hc_getI, hc_getR, hc_putI, hc_putZ, hc_xald, hc_iast, hc_bast, hc_zast, hc_aald, hc_alen, hc_copy, hc_gets, hc_getsI, hc_sald, hc_ldcs, hc_sval, hc_scod, hc_slen, hc_sbald, hc_callI, hc_callL, hc_callV, hc_max, hc_min, hc_abs, hc_ireturn, hc_zreturn, hc_creturn, hc_lreturn, hc_return, hc_none, hc_switch, hv_sw, hv_get, hv_set, hv_set2, hv_mask, hv_fr, hv_noL, hv_pop, hv_pk, hv_isO, hv_isS, hv_any, hv_w, hv_cat, he_nil, he_i, he_r, he_l, hv_repl_0, hv_repl_s, if_true, if_false, and_true, true_and, and_self, Nat.zero_add, Nat.add_zero, Nat.reduceAdd, Nat.reduceLeDiff, List.length_cons, List.length_nil, Int.toNat_natCast, Bool.false_eq_true, reduceIte, Int.toNat_zero, Int.toNat_one, Int.reduceToNat, or_true, true_or, Int.reduceEq, Int.reduceLT, Int.reduceLE, Int.reduceNeg, Int.reduceAdd, Int.reduceSub, Int.reduceMul, Nat.reduceMul, Nat.reduceEqDiff, implies_true, false_implies, true_implies, not_true_eq_false, not_false_eq_true, ne_eq, or_false, false_or, and_false, false_and, or_self, Classical.not_not, Int.zero_add, Int.add_zero, lc_0, lc_22, lc_730, lc_902, lc_1074, lc_1447, lc_1824, lc_2081, lc_2135, lc_4258, lc_5723, lr_0, lt_14, ll_14, lr_2, lr_4, lr_5, lr_6, lr_7, lr_8, lt_1820, ll_1820, lr_9, lt_1822, ll_1822, lr_10, lr_11, lr_12, lr_13, lr_22, lt_30, ll_30, lr_1824, lt_1825, ll_1825, lr_2081, lt_2086, ll_2086, lr_2082, lt_2102, ll_2102, lr_2083, lt_2118, ll_2118, lr_2135, lt_2137, ll_2137, lr_4263, lt_4265, ll_4265, lr_5725, lt_5755, ll_5755, lr_5726, lt_5763, ll_5763, lr_5727, lt_5771, ll_5771, lr_5728, lt_6091, ll_6091, lr_5729, lt_6227, ll_6227, lr_5731, lt_6363, ll_6363, lr_5732, lt_6733, ll_6733, lr_5743, lt_7433, ll_7433, lr_5744, lt_7435, ll_7435, lr_5745, lt_7805, ll_7805, lr_5746, lt_7809, ll_7809, lr_5747, lt_8065, ll_8065, lr_5748, lt_8165, ll_8165, lr_5750, lt_8265, ll_8265, lr_5751, lt_8267, ll_8267, lr_5752, lt_8539, ll_8539, lr_5753, lt_9279, ll_9279, lr_731, lt_733, ll_733, lr_732, lt_899, ll_899, lr_903, lt_905, ll_905, lr_904, lt_1071, ll_1071, lr_1074, lt_1086, ll_1086, lr_1082, lt_1088, ll_1088, lr_1088, lt_1090, ll_1090, lr_1089, lt_1098, ll_1098, lr_1083, lt_1106, ll_1106, lr_1106, lt_1108, ll_1108, lr_1107, lt_1116, ll_1116, lr_1084, lt_1124, ll_1124, lr_1124, lt_1126, ll_1126, lr_1125, lt_1134, ll_1134, lr_1085, lt_1142, ll_1142, lr_1142, lt_1147, ll_1147, lr_1143, lt_1207, ll_1207, lr_1144, lt_1267, ll_1267, lr_1145, lt_1327, ll_1327, lr_1146, lt_1387, ll_1387, lr_1447, lt_1459, ll_1459, lr_1455, lt_1461, ll_1461, lr_1461, lt_1463, ll_1463, lr_1462, lt_1471, ll_1471, lr_1456, lt_1479, ll_1479, lr_1479, lt_1481, ll_1481, lr_1480, lt_1489, ll_1489, lr_1457, lt_1497, ll_1497, lr_1497, lt_1499, ll_1499, lr_1498, lt_1507, ll_1507, lr_1458, lt_1515, ll_1515, lr_1515, lt_1520, ll_1520, lr_1516, lt_1580, ll_1580, lr_1517, lt_1640, ll_1640, lr_1518, lt_1700, ll_1700, lr_1519, lt_1760, ll_1760]
    have rLo : ∀ (m : hm) b w a, 6433 ≤ b → a ≤ 6432 → hh_upd m b w a = m a := fun m b w a h1 h2 => hh_upd_ne (by omega)
    have rHi : ∀ (m : hm) b w a, b ≤ 6437 → 6438 ≤ a → hh_upd m b w a = m a := fun m b w a h1 h2 => hh_upd_ne (by omega)
    simp only [rLo, rHi, Nat.reduceLeDiff, Nat.le_refl]
    refine ⟨fun g => ?_, fun g => ?_⟩
    · have : j = 74 := by omega
      subst this
      rw [a3 6421 (by omega), a3 6422 (by omega), a3 7433 (by omega), a3 7434 (by omega), a3 6367 (by omega), a3 6372 (by omega)]
      have fin : ∀ w : Int, w = (if y 6372 < 60 then y 6372 + 1 else y 6372) → Q (hh_upd (hh_upd (hh_upd (hh_upd (hh_upd (hh_upd v 6433 (y 6421)) 6434 (y 6422)) 6435 (y 7433)) 6436 (y 7434)) 6437 (y 6367)) 6372 w) := fun w hw => by
        refine h _ (fun k h1 h2 => ?_) ?_ ?_ ?_ ?_ ?_ ?_ (fun a h1 h2 => ?_)
        · rw [hh_upd_ne (by omega), hh_upd_ne (by omega), hh_upd_ne (by omega), hh_upd_ne (by omega), hh_upd_ne (by omega), hh_upd_ne (by omega)]
          exact a2 k (by omega) h2
        · simp [hh_upd]
        · simp [hh_upd]
        · simp [hh_upd]
        · simp [hh_upd]
        · simp [hh_upd]
        · rw [hh_upd_same]; exact hw
        · rw [hh_upd_ne h2, hh_upd_ne (by omega), hh_upd_ne (by omega), hh_upd_ne (by omega), hh_upd_ne (by omega), hh_upd_ne (by omega)]
          exact a3 a (by omega)
      refine ⟨by decide, by decide, by decide, by decide, by decide, by decide, by decide, by decide, by decide, by decide, by decide, by decide, fun c => ?_, fun c => ?_⟩
      · have fn := fin (y 6372 + 0) (by rw [if_neg (by omega)]; omega)
        rw [Int.add_zero] at fn
        (repeat' (with_reducible refine And.intro ?_ ?_)) <;> first | exact fn | exact trivial | omega | exact ⟨by omega, by omega⟩
      · have fn := fin (y 6372 + 1) (by rw [if_pos (by omega)])
        (repeat' (with_reducible refine And.intro ?_ ?_)) <;> first | exact fn | exact trivial | omega | exact ⟨by omega, by omega⟩
    · have e5 : ((j : Int) - 5).toNat = j - 5 := by omega
      rw [e5]
      have hn : ((j : Int) + -1) = ((j - 1 : Nat) : Int) := by omega
      have ih' := ih (j - 1, hh_upd v (6363 + j) (v (6363 + (j - 5)))) ⟨by show 74 ≤ j - 1; omega, by show j - 1 ≤ 369; omega, fun k h1 h2 => ?_, fun a ha => ?_⟩ (by show j - 1 < j; omega)
      rotate_left
      · show hh_upd v _ _ _ = _
        have h1 : j - 1 < k := h1
        by_cases e : k = j
        · subst e; rw [hh_upd_same, a3 _ (by omega)]
        · rw [hh_upd_ne (by omega)]
          exact a2 k (by omega) h2
      · show hh_upd v _ _ _ = _
        have ha : ¬ (6363 + (j - 1) < a ∧ a < 6733) := ha
        rw [hh_upd_ne (by omega)]
        exact a3 a (by omega)
      rw [hn]
      (repeat' (with_reducible refine And.intro ?_ ?_)) <;> first | exact ih' | exact trivial | omega | exact ⟨by omega, by omega⟩
  exact main (369, y) ⟨by show 74 ≤ 369; omega, Nat.le_refl _, fun k h1 h2 => by have : 369 < k := h1; omega, fun _ _ => rfl⟩
