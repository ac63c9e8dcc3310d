/-! a tenth: what the rules order -/
def ruc (z : hm) (s r k : Nat) : Int := z (6091 + (88 + 24 * s + 4 * r + k))
def rl (z : hm) (s : Nat) : Nat → Nat → Int
  | 0, _ => 0
  | m + 1, k => if (ruc z s k 1 = 0 ∧ felt z s (ruc z s k 0) < ruc z s k 2) ∨ (¬ ruc z s k 1 = 0 ∧ ruc z s k 2 < felt z s (ruc z s k 0)) then ruc z s k 3 else rl z s m (k + 1)
theorem rl_s (z : hm) (s m k : Nat) : rl z s (m + 1) k = if (ruc z s k 1 = 0 ∧ felt z s (ruc z s k 0) < ruc z s k 2) ∨ (¬ ruc z s k 1 = 0 ∧ ruc z s k 2 < felt z s (ruc z s k 0)) then ruc z s k 3 else rl z s m (k + 1) := rfl
def ruleF (z : hm) (s : Nat) : Int := rl z s (z (6091 + (2 + s))).toNat 0
theorem sp_feltBy (l : Launch) {t : Nat} (ht : IsTug t) {N : Int} {x z : hm} (hV : okV t N x z) {s : Nat} (hs : s < 2) {w : Int} (hw : 0 ≤ w ∧ w ≤ 3) {Q : Int → hm → Prop} (h : Q (felt z s w) x) : hm_I l m_X8_feltBy 2 [Vr t, Vr 730, Vi s, Vi w] x Q := by
  have hV' := hV
  obtain ⟨v1, v2, v3, v4, v5, v6⟩ := hV'
  have htb : 1074 ≤ t ∧ t ≤ 5350 := by unfold IsTug at ht; omega
  have hth := (v3.2.2.1 v4).1.2.1
  have e3 : x (t + 3) = z 6367 := by rw [← v1 _ (by omega)]; exact (v2.2.2 v4).1.2.1
  have e4 : x (t + 4) = z 6368 := by rw [← v1 _ (by omega)]; exact (v2.2.2 v4).1.2.2.1
  have hth' : -102 ≤ z 6367 ∧ z 6367 ≤ 102 := hth
  unfold felt at h
  refine hr_X8_feltBy l (Nat.le_of_ble_eq_true rfl) ?_
  simp only [hb_X8_feltBy_28, hb_X8_feltBy_35, hb_X8_feltBy_60, hb_X8_feltBy_55, hb_X8_feltBy_48, hb_X8_feltBy_44, hb_X8_feltBy_61, hb_X8_feltBy_0, hc_iconst, hc_lconst, hc_iload, hc_lload, hc_aload, hc_istore, hc_astore, hc_lstore, hc_iinc, hc_dup, hc_dup2, hc_pop, hc_iadd, hc_isub, hc_imul, hc_iaddw, hc_isubw, hc_imulw, hc_inegw, hc_idiv, hc_irem, hc_ineg, hc_b2, hc_b1, hc_i2l, hc_l2i, hc_ladd, hc_l2, hc_lsh, hc_lcmp, hc_if, hc_icmp, hc_jump, hc_getI, hc_getR, hc_putI, hc_putZ, hc_xald, hc_iast, hc_bast, hc_zast, hc_aald, hc_alen, hc_copy, hc_gets, hc_getsI, hc_sald, hc_ldcs, hc_sval, hc_scod, hc_slen, hc_sbald, hc_callI, hc_callL, hc_callV, hc_max, hc_min, hc_abs, hc_ireturn, hc_zreturn, hc_creturn, hc_lreturn, hc_return, hc_none, hc_switch, hv_sw, hv_get, hv_set, hv_set2, hv_mask, hv_fr, hv_noL, hv_pop, hv_pk, hv_isO, hv_isS, hv_any, hv_w, hv_cat, he_nil, he_i, he_r, he_l, hv_repl_0, hv_repl_s, if_true, if_false, and_true, true_and, and_self, Nat.zero_add, Nat.add_zero, Nat.reduceAdd, Nat.reduceLeDiff, List.length_cons, List.length_nil, Int.toNat_natCast, Bool.false_eq_true, reduceIte, Int.toNat_zero, Int.toNat_one, Int.reduceToNat, or_true, true_or, Int.reduceEq, Int.reduceLT, Int.reduceLE, Int.reduceNeg, Int.reduceAdd, Int.reduceSub, Int.reduceMul, Nat.reduceMul, Nat.reduceEqDiff, implies_true, false_implies, true_implies, not_true_eq_false, not_false_eq_true, ne_eq, or_false, false_or, and_false, false_and, or_self, Classical.not_not, Int.zero_add, Int.add_zero, lc_0, lc_22, lc_730, lc_902, lc_1074, lc_1447, lc_1824, lc_2081, lc_2135, lc_4258, lc_5723, lr_0, lt_14, ll_14, lr_2, lr_4, lr_5, lr_6, lr_7, lr_8, lt_1820, ll_1820, lr_9, lt_1822, ll_1822, lr_10, lr_11, lr_12, lr_13, lr_22, lt_30, ll_30, lr_1824, lt_1825, ll_1825, lr_2081, lt_2086, ll_2086, lr_2082, lt_2102, ll_2102, lr_2083, lt_2118, ll_2118, lr_2135, lt_2137, ll_2137, lr_4263, lt_4265, ll_4265, lr_5725, lt_5755, ll_5755, lr_5726, lt_5763, ll_5763, lr_5727, lt_5771, ll_5771, lr_5728, lt_6091, ll_6091, lr_5729, lt_6227, ll_6227, lr_5731, lt_6363, ll_6363, lr_5732, lt_6733, ll_6733, lr_5743, lt_7433, ll_7433, lr_5744, lt_7435, ll_7435, lr_5745, lt_7805, ll_7805, lr_5746, lt_7809, ll_7809, lr_5747, lt_8065, ll_8065, lr_5748, lt_8165, ll_8165, lr_5750, lt_8265, ll_8265, lr_5751, lt_8267, ll_8267, lr_5752, lt_8539, ll_8539, lr_5753, lt_9279, ll_9279, lr_731, lt_733, ll_733, lr_732, lt_899, ll_899, lr_903, lt_905, ll_905, lr_904, lt_1071, ll_1071, lr_1074, lt_1086, ll_1086, lr_1082, lt_1088, ll_1088, lr_1088, lt_1090, ll_1090, lr_1089, lt_1098, ll_1098, lr_1083, lt_1106, ll_1106, lr_1106, lt_1108, ll_1108, lr_1107, lt_1116, ll_1116, lr_1084, lt_1124, ll_1124, lr_1124, lt_1126, ll_1126, lr_1125, lt_1134, ll_1134, lr_1085, lt_1142, ll_1142, lr_1142, lt_1147, ll_1147, lr_1143, lt_1207, ll_1207, lr_1144, lt_1267, ll_1267, lr_1145, lt_1327, ll_1327, lr_1146, lt_1387, ll_1387, lr_1447, lt_1459, ll_1459, lr_1455, lt_1461, ll_1461, lr_1461, lt_1463, ll_1463, lr_1462, lt_1471, ll_1471, lr_1456, lt_1479, ll_1479, lr_1479, lt_1481, ll_1481, lr_1480, lt_1489, ll_1489, lr_1457, lt_1497, ll_1497, lr_1497, lt_1499, ll_1499, lr_1498, lt_1507, ll_1507, lr_1458, lt_1515, ll_1515, lr_1515, lt_1520, ll_1520, lr_1516, lt_1580, ll_1580, lr_1517, lt_1640, ll_1640, lr_1518, lt_1700, ll_1700, lr_1519, lt_1760, ll_1760, tg_cls ht, tg_rf0 ht, tg_rf8 ht, tg_rf9 ht, tg_rf10 ht, tg_rf11 ht, tg_t12 ht, tg_l12 ht, tg_t14 ht, tg_l14 ht, tg_r14 ht, tg_t16 ht, tg_l16 ht, tg_r15 ht, tg_t24 ht, tg_l24 ht, tg_t32 ht, tg_l32 ht, tg_r32 ht, tg_t34 ht, tg_l34 ht, tg_r33 ht, tg_t42 ht, tg_l42 ht, tg_t50 ht, tg_l50 ht, tg_r50 ht, tg_t52 ht, tg_l52 ht, tg_r51 ht, tg_t60 ht, tg_l60 ht, tg_t68 ht, tg_l68 ht, tg_r68 ht, tg_t73 ht, tg_l73 ht, tg_r69 ht, tg_t133 ht, tg_l133 ht, tg_r70 ht, tg_t193 ht, tg_l193 ht, tg_r71 ht, tg_t253 ht, tg_l253 ht, tg_r72 ht, tg_t313 ht, tg_l313 ht]
  rw [e3, e4]
  refine ⟨⟨fun c => ?_, fun c => ?_, fun c => ⟨fun d => ?_, fun d => ?_⟩⟩, fun c => ?_⟩
  · subst c
    rw [if_pos rfl] at h
    exact sp_meanBreath l ht hV hs h
  · subst c
    rw [if_neg (by decide), if_pos rfl] at h
    have e : (1 : Int) - s = ((1 - s : Nat) : Int) := by omega
    rw [e]
    exact ⟨⟨by omega, by omega⟩, sp_meanBreath l ht hV (by omega) h⟩
  · subst c
    rw [if_neg (by decide), if_neg (by decide), if_pos rfl, if_neg (by omega)] at h
    exact ⟨⟨by omega, by omega⟩, h⟩
  · subst c
    rw [if_neg (by decide), if_neg (by decide), if_pos rfl, if_pos (by omega)] at h
    exact h
  · simp at c
    rw [if_neg (by omega), if_neg (by omega), if_neg (by omega)] at h
    exact h
theorem sp_orderByRules (l : Launch) {t : Nat} (ht : IsTug t) {N : Int} {x z : hm} (hV : okV t N x z) {s : Nat} (hs : s < 2) {Q : Int → hm → Prop} (h : Q (ruleF z s) x) : hm_I l m_X8_orderByRules 3 [Vr t, Vr 730, Vi s] x Q := by
  have hV' := hV
  obtain ⟨v1, v2, v3, v4, v5, v6⟩ := hV'
  have hd := is_side730 hs
  have hcn := (v6.1 s hs).1
  have hru := (v6.1 s hs).2.2
  have e93 : z (6091 + 2 + s) = z (6091 + (2 + s)) := by rw [Nat.add_assoc]
  rw [e93] at hcn
  obtain ⟨c, hc⟩ := Int.eq_ofNat_of_zero_le (show 0 ≤ z (6091 + (2 + s)) by omega)
  have ec : x (735 + 82 * s + 2) = c := by
    rw [← v1 _ (by omega), show 735 + 82 * s + 2 = 730 + 7 + 82 * s by omega, (v5.1 s hs).2.1, e93]; exact hc
  unfold ruleF at h
  rw [hc, Int.toNat_natCast] at h
  refine hr_X8_orderByRules l (Nat.le_of_ble_eq_true rfl) ?_
  intro At h10
  simp only [hb_X8_orderByRules_80, hb_X8_orderByRules_74, hb_X8_orderByRules_69, hb_X8_orderByRules_60, hb_X8_orderByRules_57, hb_X8_orderByRules_48, hb_X8_orderByRules_19, hb_X8_orderByRules_10, hb_X8_orderByRules_0, hc_iconst, hc_lconst, hc_iload, hc_lload, hc_aload, hc_istore, hc_astore, hc_lstore, hc_iinc, hc_dup, hc_dup2, hc_pop, hc_iadd, hc_isub, hc_imul, hc_iaddw, hc_isubw, hc_imulw, hc_inegw, hc_idiv, hc_irem, hc_ineg, hc_b2, hc_b1, hc_i2l, hc_l2i, hc_ladd, hc_l2, hc_lsh, hc_lcmp, hc_if, hc_icmp, hc_jump, hc_getI, hc_getR, hc_putI, hc_putZ, hc_xald, hc_iast, hc_bast, hc_zast, hc_aald, hc_alen, hc_copy, hc_gets, hc_getsI, hc_sald, hc_ldcs, hc_sval, hc_scod, hc_slen, hc_sbald, hc_callI, hc_callL, hc_callV, hc_max, hc_min, hc_abs, hc_ireturn, hc_zreturn, hc_creturn, hc_lreturn, hc_return, hc_none, hc_switch, hv_sw, hv_get, hv_set, hv_set2, hv_mask, hv_fr, hv_noL, hv_pop, hv_pk, hv_isO, hv_isS, hv_any, hv_w, hv_cat, he_nil, he_i, he_r, he_l, hv_repl_0, hv_repl_s, if_true, if_false, and_true, true_and, and_self, Nat.zero_add, Nat.add_zero, Nat.reduceAdd, Nat.reduceLeDiff, List.length_cons, List.length_nil, Int.toNat_natCast, Bool.false_eq_true, reduceIte, Int.toNat_zero, Int.toNat_one, Int.reduceToNat, or_true, true_or, Int.reduceEq, Int.reduceLT, Int.reduceLE, Int.reduceNeg, Int.reduceAdd, Int.reduceSub, Int.reduceMul, Nat.reduceMul, Nat.reduceEqDiff, implies_true, false_implies, true_implies, not_true_eq_false, not_false_eq_true, ne_eq, or_false, false_or, and_false, false_and, or_self, Classical.not_not, Int.zero_add, Int.add_zero, lc_0, lc_22, lc_730, lc_902, lc_1074, lc_1447, lc_1824, lc_2081, lc_2135, lc_4258, lc_5723, lr_0, lt_14, ll_14, lr_2, lr_4, lr_5, lr_6, lr_7, lr_8, lt_1820, ll_1820, lr_9, lt_1822, ll_1822, lr_10, lr_11, lr_12, lr_13, lr_22, lt_30, ll_30, lr_1824, lt_1825, ll_1825, lr_2081, lt_2086, ll_2086, lr_2082, lt_2102, ll_2102, lr_2083, lt_2118, ll_2118, lr_2135, lt_2137, ll_2137, lr_4263, lt_4265, ll_4265, lr_5725, lt_5755, ll_5755, lr_5726, lt_5763, ll_5763, lr_5727, lt_5771, ll_5771, lr_5728, lt_6091, ll_6091, lr_5729, lt_6227, ll_6227, lr_5731, lt_6363, ll_6363, lr_5732, lt_6733, ll_6733, lr_5743, lt_7433, ll_7433, lr_5744, lt_7435, ll_7435, lr_5745, lt_7805, ll_7805, lr_5746, lt_7809, ll_7809, lr_5747, lt_8065, ll_8065, lr_5748, lt_8165, ll_8165, lr_5750, lt_8265, ll_8265, lr_5751, lt_8267, ll_8267, lr_5752, lt_8539, ll_8539, lr_5753, lt_9279, ll_9279, lr_731, lt_733, ll_733, lr_732, lt_899, ll_899, lr_903, lt_905, ll_905, lr_904, lt_1071, ll_1071, lr_1074, lt_1086, ll_1086, lr_1082, lt_1088, ll_1088, lr_1088, lt_1090, ll_1090, lr_1089, lt_1098, ll_1098, lr_1083, lt_1106, ll_1106, lr_1106, lt_1108, ll_1108, lr_1107, lt_1116, ll_1116, lr_1084, lt_1124, ll_1124, lr_1124, lt_1126, ll_1126, lr_1125, lt_1134, ll_1134, lr_1085, lt_1142, ll_1142, lr_1142, lt_1147, ll_1147, lr_1143, lt_1207, ll_1207, lr_1144, lt_1267, ll_1267, lr_1145, lt_1327, ll_1327, lr_1146, lt_1387, ll_1387, lr_1447, lt_1459, ll_1459, lr_1455, lt_1461, ll_1461, lr_1461, lt_1463, ll_1463, lr_1462, lt_1471, ll_1471, lr_1456, lt_1479, ll_1479, lr_1479, lt_1481, ll_1481, lr_1480, lt_1489, ll_1489, lr_1457, lt_1497, ll_1497, lr_1497, lt_1499, ll_1499, lr_1498, lt_1507, ll_1507, lr_1458, lt_1515, ll_1515, lr_1515, lt_1520, ll_1520, lr_1516, lt_1580, ll_1580, lr_1517, lt_1640, ll_1640, lr_1518, lt_1700, ll_1700, lr_1519, lt_1760, ll_1760]
  rw [lr_m733 hs]
  refine ⟨⟨by omega, by omega⟩, ?_⟩
  refine lp_m (fun k : Nat => c - k) (G := fun k => At 10 [some (Vr t), some (Vr 730), some (Vi s), some (Vr (735 + 82 * s)), some (Vi k), none, none] [] x) (P := fun k => k ≤ c ∧ rl z s c 0 = rl z s (c - k) k) ?_ 0 ⟨Nat.zero_le _, rfl⟩
  rintro k ⟨hk, hrl⟩ ih
  refine h10 _ _ _ ?_
  simp only [hb_X8_orderByRules_80, hb_X8_orderByRules_74, hb_X8_orderByRules_69, hb_X8_orderByRules_60, hb_X8_orderByRules_57, hb_X8_orderByRules_48, hb_X8_orderByRules_19, hb_X8_orderByRules_10, hb_X8_orderByRules_0, hc_iconst, hc_lconst, hc_iload, hc_lload, hc_aload, hc_istore, hc_astore, hc_lstore, hc_iinc, hc_dup, hc_dup2, hc_pop, hc_iadd, hc_isub, hc_imul, hc_iaddw, hc_isubw, hc_imulw, hc_inegw, hc_idiv, hc_irem, hc_ineg, hc_b2, hc_b1, hc_i2l, hc_l2i, hc_ladd, hc_l2, hc_lsh, hc_lcmp, hc_if, hc_icmp, hc_jump, hc_getI, hc_getR, hc_putI, hc_putZ, hc_xald, hc_iast, hc_bast, hc_zast, hc_aald, hc_alen, hc_copy, hc_gets, hc_getsI, hc_sald, hc_ldcs, hc_sval, hc_scod, hc_slen, hc_sbald, hc_callI, hc_callL, hc_callV, hc_max, hc_min, hc_abs, hc_ireturn, hc_zreturn, hc_creturn, hc_lreturn, hc_return, hc_none, hc_switch, hv_sw, hv_get, hv_set, hv_set2, hv_mask, hv_fr, hv_noL, hv_pop, hv_pk, hv_isO, hv_isS, hv_any, hv_w, hv_cat, he_nil, he_i, he_r, he_l, hv_repl_0, hv_repl_s, if_true, if_false, and_true, true_and, and_self, Nat.zero_add, Nat.add_zero, Nat.reduceAdd, Nat.reduceLeDiff, List.length_cons, List.length_nil, Int.toNat_natCast, Bool.false_eq_true, reduceIte, Int.toNat_zero, Int.toNat_one, Int.reduceToNat, or_true, true_or, Int.reduceEq, Int.reduceLT, Int.reduceLE, Int.reduceNeg, Int.reduceAdd, Int.reduceSub, Int.reduceMul, Nat.reduceMul, Nat.reduceEqDiff, implies_true, false_implies, true_implies, not_true_eq_false, not_false_eq_true, ne_eq, or_false, false_or, and_false, false_and, or_self, Classical.not_not, Int.zero_add, Int.add_zero, lc_0, lc_22, lc_730, lc_902, lc_1074, lc_1447, lc_1824, lc_2081, lc_2135, lc_4258, lc_5723, lr_0, lt_14, ll_14, lr_2, lr_4, lr_5, lr_6, lr_7, lr_8, lt_1820, ll_1820, lr_9, lt_1822, ll_1822, lr_10, lr_11, lr_12, lr_13, lr_22, lt_30, ll_30, lr_1824, lt_1825, ll_1825, lr_2081, lt_2086, ll_2086, lr_2082, lt_2102, ll_2102, lr_2083, lt_2118, ll_2118, lr_2135, lt_2137, ll_2137, lr_4263, lt_4265, ll_4265, lr_5725, lt_5755, ll_5755, lr_5726, lt_5763, ll_5763, lr_5727, lt_5771, ll_5771, lr_5728, lt_6091, ll_6091, lr_5729, lt_6227, ll_6227, lr_5731, lt_6363, ll_6363, lr_5732, lt_6733, ll_6733, lr_5743, lt_7433, ll_7433, lr_5744, lt_7435, ll_7435, lr_5745, lt_7805, ll_7805, lr_5746, lt_7809, ll_7809, lr_5747, lt_8065, ll_8065, lr_5748, lt_8165, ll_8165, lr_5750, lt_8265, ll_8265, lr_5751, lt_8267, ll_8267, lr_5752, lt_8539, ll_8539, lr_5753, lt_9279, ll_9279, lr_731, lt_733, ll_733, lr_732, lt_899, ll_899, lr_903, lt_905, ll_905, lr_904, lt_1071, ll_1071, lr_1074, lt_1086, ll_1086, lr_1082, lt_1088, ll_1088, lr_1088, lt_1090, ll_1090, lr_1089, lt_1098, ll_1098, lr_1083, lt_1106, ll_1106, lr_1106, lt_1108, ll_1108, lr_1107, lt_1116, ll_1116, lr_1084, lt_1124, ll_1124, lr_1124, lt_1126, ll_1126, lr_1125, lt_1134, ll_1134, lr_1085, lt_1142, ll_1142, lr_1142, lt_1147, ll_1147, lr_1143, lt_1207, ll_1207, lr_1144, lt_1267, ll_1267, lr_1145, lt_1327, ll_1327, lr_1146, lt_1387, ll_1387, lr_1447, lt_1459, ll_1459, lr_1455, lt_1461, ll_1461, lr_1461, lt_1463, ll_1463, lr_1462, lt_1471, ll_1471, lr_1456, lt_1479, ll_1479, lr_1479, lt_1481, ll_1481, lr_1480, lt_1489, ll_1489, lr_1457, lt_1497, ll_1497, lr_1497, lt_1499, ll_1499, lr_1498, lt_1507, ll_1507, lr_1458, lt_1515, ll_1515, lr_1515, lt_1520, ll_1520, lr_1516, lt_1580, ll_1580, lr_1517, lt_1640, ll_1640, lr_1518, lt_1700, ll_1700, lr_1519, lt_1760, ll_1760]
  simp only [sd_cls hd, sd_rf3 hd, sd_t52 hd, sd_l52 hd, true_and, ec]
  refine ⟨fun g => ?_, fun g => ?_⟩
  · have : k = c := by omega
    subst this
    rw [hrl, Nat.sub_self] at h
    exact h
  · have hkc : k < c := by omega
    have hk6 : k < 6 := by omega
    rw [show c - k = (c - (k + 1)) + 1 by omega, rl_s] at hrl
    have ru : ∀ j, j < 4 → x (735 + 82 * s + 58 + 4 * k + j) = ruc z s k j := fun j hj => by
      rw [← v1 _ (by omega)]
      exact RM.ru v5 hs hk6 (by rw [e93]; omega) hj
    have r0 : x (735 + 82 * s + 58 + 4 * k) = ruc z s k 0 := ru 0 (by omega)
    have ob := hru k hk6 (by rw [e93]; omega)
    have o0 : 0 ≤ ruc z s k 0 ∧ ruc z s k 0 ≤ 3 := by unfold ruc; rw [show 6091 + (88 + 24 * s + 4 * k + 0) = 6091 + 88 + 24 * s + 4 * k by omega]; exact ob.1
    have o1 : 0 ≤ ruc z s k 1 ∧ ruc z s k 1 ≤ 1 := by unfold ruc; rw [show 6091 + (88 + 24 * s + 4 * k + 1) = 6091 + 88 + 24 * s + 4 * k + 1 by omega]; exact ob.2.1
    simp only [sd_r52 hd hk6, sd_ut hd hk6, sd_ul hd hk6, true_and]
    have ih' := ih (k + 1)
    have nx : rl z s c 0 = rl z s (c - (k + 1)) (k + 1) → At 10 [some (Vr t), some (Vr 730), some (Vi s), some (Vr (735 + 82 * s)), some (Vi (k + 1 : Nat)), none, none] [] x := fun e => ih (k + 1) ⟨by omega, e⟩ (by show c - (k + 1) < c - k; omega)
    rw [r0]
    refine ⟨⟨by decide, by decide, by omega, by omega⟩, by decide, tg_cls ht, ?_⟩
    refine sp_feltBy l ht hV hs o0 ?_
    rw [ru 1 (by omega), ru 2 (by omega), ru 3 (by omega)]
    by_cases c1 : ruc z s k 1 = 0
    · refine ⟨by decide, fun _ => ⟨by decide, fun c2 => ⟨⟨by omega, by omega⟩, ?_⟩, fun c2 => ⟨by decide, ?_⟩⟩, fun c2 => by omega⟩
      · rw [if_neg (by omega)] at hrl; exact nx hrl
      · rw [if_pos (by omega)] at hrl; rw [hrl] at h; exact h
    · refine ⟨by decide, fun c2 => by omega, fun _ => ⟨by decide, fun c2 => ⟨⟨by omega, by omega⟩, ?_⟩, fun c2 => ⟨by decide, ?_⟩⟩⟩
      · rw [if_neg (by omega)] at hrl; exact nx hrl
      · rw [if_pos (by omega)] at hrl; rw [hrl] at h; exact h
/-- the bounds of a match's rules and of a pull, for the reference -/
def okN (z : hm) : Prop := brB z ∧ OM 6091 z ∧ (-102 ≤ z 6367 ∧ z 6367 ≤ 102)
theorem sp_ruled (l : Launch) {z : hm} (hN : okN z) {s : Nat} (hs : s < 2) {Q : Int → hm → Prop} (h : Q (ruleF z s) z) : hm_I l m_X10_ruled 2 [Vr 5723, Vi s] z Q := by
  obtain ⟨hbr, v6, hth⟩ := hN
  have hcn := (v6.1 s hs).1
  have hcs : ∀ s, s < 2 → 1 ≤ z (6091 + s) ∧ z (6091 + s) ≤ 8 := fun s hs => by have := (v6.1 s hs).1; omega
  have hru := (v6.1 s hs).2.2
  have e93 : z (6091 + 2 + s) = z (6091 + (2 + s)) := by rw [Nat.add_assoc]
  rw [e93] at hcn
  obtain ⟨c, hc⟩ := Int.eq_ofNat_of_zero_le (show 0 ≤ z (6091 + (2 + s)) by omega)
  unfold ruleF at h
  rw [hc, Int.toNat_natCast] at h
  refine hr_X10_ruled l (Nat.le_of_ble_eq_true rfl) ?_
  intro At h2
  simp only [hb_X10_ruled_0, hc_iconst, hc_lconst, hc_iload, hc_lload, hc_aload, hc_istore, hc_astore, hc_lstore, hc_iinc, hc_dup, hc_dup2, hc_pop, hc_iadd, hc_isub, hc_imul, hc_iaddw, hc_isubw, hc_imulw, hc_inegw, hc_idiv, hc_irem, hc_ineg, hc_b2, hc_b1, hc_i2l, hc_l2i, hc_ladd, hc_l2, hc_lsh, hc_lcmp, hc_if, hc_icmp, hc_jump, hc_getI, hc_getR, hc_putI, hc_putZ, hc_xald, hc_iast, hc_bast, hc_zast, hc_aald, hc_alen, hc_copy, hc_gets, hc_getsI, hc_sald, hc_ldcs, hc_sval, hc_scod, hc_slen, hc_sbald, hc_callI, hc_callL, hc_callV, hc_max, hc_min, hc_abs, hc_ireturn, hc_zreturn, hc_creturn, hc_lreturn, hc_return, hc_none, hc_switch, hv_sw, hv_get, hv_set, hv_set2, hv_mask, hv_fr, hv_noL, hv_pop, hv_pk, hv_isO, hv_isS, hv_any, hv_w, hv_cat, he_nil, he_i, he_r, he_l, hv_repl_0, hv_repl_s, if_true, if_false, and_true, true_and, and_self, Nat.zero_add, Nat.add_zero, Nat.reduceAdd, Nat.reduceLeDiff, List.length_cons, List.length_nil, Int.toNat_natCast, Bool.false_eq_true, reduceIte, Int.toNat_zero, Int.toNat_one, Int.reduceToNat, or_true, true_or, Int.reduceEq, Int.reduceLT, Int.reduceLE, Int.reduceNeg, Int.reduceAdd, Int.reduceSub, Int.reduceMul, Nat.reduceMul, Nat.reduceEqDiff, implies_true, false_implies, true_implies, not_true_eq_false, not_false_eq_true, ne_eq, or_false, false_or, and_false, false_and, or_self, Classical.not_not, Int.zero_add, Int.add_zero, lc_0, lc_22, lc_730, lc_902, lc_1074, lc_1447, lc_1824, lc_2081, lc_2135, lc_4258, lc_5723, lr_0, lt_14, ll_14, lr_2, lr_4, lr_5, lr_6, lr_7, lr_8, lt_1820, ll_1820, lr_9, lt_1822, ll_1822, lr_10, lr_11, lr_12, lr_13, lr_22, lt_30, ll_30, lr_1824, lt_1825, ll_1825, lr_2081, lt_2086, ll_2086, lr_2082, lt_2102, ll_2102, lr_2083, lt_2118, ll_2118, lr_2135, lt_2137, ll_2137, lr_4263, lt_4265, ll_4265, lr_5725, lt_5755, ll_5755, lr_5726, lt_5763, ll_5763, lr_5727, lt_5771, ll_5771, lr_5728, lt_6091, ll_6091, lr_5729, lt_6227, ll_6227, lr_5731, lt_6363, ll_6363, lr_5732, lt_6733, ll_6733, lr_5743, lt_7433, ll_7433, lr_5744, lt_7435, ll_7435, lr_5745, lt_7805, ll_7805, lr_5746, lt_7809, ll_7809, lr_5747, lt_8065, ll_8065, lr_5748, lt_8165, ll_8165, lr_5750, lt_8265, ll_8265, lr_5751, lt_8267, ll_8267, lr_5752, lt_8539, ll_8539, lr_5753, lt_9279, ll_9279, lr_731, lt_733, ll_733, lr_732, lt_899, ll_899, lr_903, lt_905, ll_905, lr_904, lt_1071, ll_1071, lr_1074, lt_1086, ll_1086, lr_1082, lt_1088, ll_1088, lr_1088, lt_1090, ll_1090, lr_1089, lt_1098, ll_1098, lr_1083, lt_1106, ll_1106, lr_1106, lt_1108, ll_1108, lr_1107, lt_1116, ll_1116, lr_1084, lt_1124, ll_1124, lr_1124, lt_1126, ll_1126, lr_1125, lt_1134, ll_1134, lr_1085, lt_1142, ll_1142, lr_1142, lt_1147, ll_1147, lr_1143, lt_1207, ll_1207, lr_1144, lt_1267, ll_1267, lr_1145, lt_1327, ll_1327, lr_1146, lt_1387, ll_1387, lr_1447, lt_1459, ll_1459, lr_1455, lt_1461, ll_1461, lr_1461, lt_1463, ll_1463, lr_1462, lt_1471, ll_1471, lr_1456, lt_1479, ll_1479, lr_1479, lt_1481, ll_1481, lr_1480, lt_1489, ll_1489, lr_1457, lt_1497, ll_1497, lr_1497, lt_1499, ll_1499, lr_1498, lt_1507, ll_1507, lr_1458, lt_1515, ll_1515, lr_1515, lt_1520, ll_1520, lr_1516, lt_1580, ll_1580, lr_1517, lt_1640, ll_1640, lr_1518, lt_1700, ll_1700, lr_1519, lt_1760, ll_1760]
  refine lp_m (fun k : Nat => c - k) (G := fun k => At 2 [some (Vr 5723), some (Vi s), some (Vi k), none, none, none] [] z) (P := fun k => k ≤ c ∧ rl z s c 0 = rl z s (c - k) k) ?_ 0 ⟨Nat.zero_le _, rfl⟩
  rintro k ⟨hk, hrl⟩ ih
  have e2s : ((2 : Int) + s).toNat = 2 + s := by omega
  have tail : k < c → ∀ (w5 : Int), w5 = felt z s (ruc z s k 0) → hb_X10_ruled_98 l At Q [some (Vr 5723), some (Vi s), some (Vi k), some (Vi (88 + 24 * (s : Int) + 4 * k)), none, none] [Vi w5] z := by
    intro hkc w5 hw5
    have hk6 : k < 6 := by omega
    rw [show c - k = (c - (k + 1)) + 1 by omega, rl_s, ← hw5] at hrl
    have ob := hru k hk6 (by rw [e93]; omega)
    have o1 : 0 ≤ ruc z s k 1 ∧ ruc z s k 1 ≤ 1 := by unfold ruc; rw [show 6091 + (88 + 24 * s + 4 * k + 1) = 6091 + 88 + 24 * s + 4 * k + 1 by omega]; exact ob.2.1
    have nx : rl z s c 0 = rl z s (c - (k + 1)) (k + 1) → At 2 [some (Vr 5723), some (Vi s), some (Vi (k + 1 : Nat)), none, none, none] [] z := fun e => ih (k + 1) ⟨by omega, e⟩ (by show c - (k + 1) < c - k; omega)
    simp only [hb_X10_ruled_98, hb_X10_ruled_111, hb_X10_ruled_124, hb_X10_ruled_127, hb_X10_ruled_140, hb_X10_ruled_149, hc_iconst, hc_lconst, hc_iload, hc_lload, hc_aload, hc_istore, hc_astore, hc_lstore, hc_iinc, hc_dup, hc_dup2, hc_pop, hc_iadd, hc_isub, hc_imul, hc_iaddw, hc_isubw, hc_imulw, hc_inegw, hc_idiv, hc_irem, hc_ineg, hc_b2, hc_b1, hc_i2l, hc_l2i, hc_ladd, hc_l2, hc_lsh, hc_lcmp, hc_if, hc_icmp, hc_jump, hc_getI, hc_getR, hc_putI, hc_putZ, hc_xald, hc_iast, hc_bast, hc_zast, hc_aald, hc_alen, hc_copy, hc_gets, hc_getsI, hc_sald, hc_ldcs, hc_sval, hc_scod, hc_slen, hc_sbald, hc_callI, hc_callL, hc_callV, hc_max, hc_min, hc_abs, hc_ireturn, hc_zreturn, hc_creturn, hc_lreturn, hc_return, hc_none, hc_switch, hv_sw, hv_get, hv_set, hv_set2, hv_mask, hv_fr, hv_noL, hv_pop, hv_pk, hv_isO, hv_isS, hv_any, hv_w, hv_cat, he_nil, he_i, he_r, he_l, hv_repl_0, hv_repl_s, if_true, if_false, and_true, true_and, and_self, Nat.zero_add, Nat.add_zero, Nat.reduceAdd, Nat.reduceLeDiff, List.length_cons, List.length_nil, Int.toNat_natCast, Bool.false_eq_true, reduceIte, Int.toNat_zero, Int.toNat_one, Int.reduceToNat, or_true, true_or, Int.reduceEq, Int.reduceLT, Int.reduceLE, Int.reduceNeg, Int.reduceAdd, Int.reduceSub, Int.reduceMul, Nat.reduceMul, Nat.reduceEqDiff, implies_true, false_implies, true_implies, not_true_eq_false, not_false_eq_true, ne_eq, or_false, false_or, and_false, false_and, or_self, Classical.not_not, Int.zero_add, Int.add_zero, lc_0, lc_22, lc_730, lc_902, lc_1074, lc_1447, lc_1824, lc_2081, lc_2135, lc_4258, lc_5723, lr_0, lt_14, ll_14, lr_2, lr_4, lr_5, lr_6, lr_7, lr_8, lt_1820, ll_1820, lr_9, lt_1822, ll_1822, lr_10, lr_11, lr_12, lr_13, lr_22, lt_30, ll_30, lr_1824, lt_1825, ll_1825, lr_2081, lt_2086, ll_2086, lr_2082, lt_2102, ll_2102, lr_2083, lt_2118, ll_2118, lr_2135, lt_2137, ll_2137, lr_4263, lt_4265, ll_4265, lr_5725, lt_5755, ll_5755, lr_5726, lt_5763, ll_5763, lr_5727, lt_5771, ll_5771, lr_5728, lt_6091, ll_6091, lr_5729, lt_6227, ll_6227, lr_5731, lt_6363, ll_6363, lr_5732, lt_6733, ll_6733, lr_5743, lt_7433, ll_7433, lr_5744, lt_7435, ll_7435, lr_5745, lt_7805, ll_7805, lr_5746, lt_7809, ll_7809, lr_5747, lt_8065, ll_8065, lr_5748, lt_8165, ll_8165, lr_5750, lt_8265, ll_8265, lr_5751, lt_8267, ll_8267, lr_5752, lt_8539, ll_8539, lr_5753, lt_9279, ll_9279, lr_731, lt_733, ll_733, lr_732, lt_899, ll_899, lr_903, lt_905, ll_905, lr_904, lt_1071, ll_1071, lr_1074, lt_1086, ll_1086, lr_1082, lt_1088, ll_1088, lr_1088, lt_1090, ll_1090, lr_1089, lt_1098, ll_1098, lr_1083, lt_1106, ll_1106, lr_1106, lt_1108, ll_1108, lr_1107, lt_1116, ll_1116, lr_1084, lt_1124, ll_1124, lr_1124, lt_1126, ll_1126, lr_1125, lt_1134, ll_1134, lr_1085, lt_1142, ll_1142, lr_1142, lt_1147, ll_1147, lr_1143, lt_1207, ll_1207, lr_1144, lt_1267, ll_1267, lr_1145, lt_1327, ll_1327, lr_1146, lt_1387, ll_1387, lr_1447, lt_1459, ll_1459, lr_1455, lt_1461, ll_1461, lr_1461, lt_1463, ll_1463, lr_1462, lt_1471, ll_1471, lr_1456, lt_1479, ll_1479, lr_1479, lt_1481, ll_1481, lr_1480, lt_1489, ll_1489, lr_1457, lt_1497, ll_1497, lr_1497, lt_1499, ll_1499, lr_1498, lt_1507, ll_1507, lr_1458, lt_1515, ll_1515, lr_1515, lt_1520, ll_1520, lr_1516, lt_1580, ll_1580, lr_1517, lt_1640, ll_1640, lr_1518, lt_1700, ll_1700, lr_1519, lt_1760, ll_1760]
    have e1 : (88 + 24 * (s : Int) + 4 * k + 1).toNat = 88 + 24 * s + 4 * k + 1 := by omega
    have e2 : (88 + 24 * (s : Int) + 4 * k + 2).toNat = 88 + 24 * s + 4 * k + 2 := by omega
    have e3 : (88 + 24 * (s : Int) + 4 * k + 3).toNat = 88 + 24 * s + 4 * k + 3 := by omega
    rw [e1, e2, e3]
    show _ ∧ _ ∧ (¬ ruc z s k 1 = 0 → _) ∧ (ruc z s k 1 = 0 → _)
    refine ⟨⟨by omega, by omega⟩, ⟨by omega, by omega⟩, fun c1 => ⟨⟨by omega, by omega⟩, ⟨by omega, by omega⟩, fun c2 => ⟨⟨by omega, by omega⟩, ?_⟩, fun c2 => ⟨⟨by omega, by omega⟩, ⟨by omega, by omega⟩, ?_⟩⟩, fun c1 => ⟨⟨by omega, by omega⟩, ⟨by omega, by omega⟩, fun c2 => ⟨⟨by omega, by omega⟩, ?_⟩, fun c2 => ⟨⟨by omega, by omega⟩, ⟨by omega, by omega⟩, ?_⟩⟩⟩
    · have c2 : w5 ≤ ruc z s k 2 := c2
      rw [if_neg (by omega)] at hrl; exact nx hrl
    · have c2 : ¬ w5 ≤ ruc z s k 2 := c2
      rw [if_pos (by omega)] at hrl; rw [hrl] at h; exact h
    · have c2 : ruc z s k 2 ≤ w5 := c2
      rw [if_neg (by omega)] at hrl; exact nx hrl
    · have c2 : ¬ ruc z s k 2 ≤ w5 := c2
      rw [if_pos (by omega)] at hrl; rw [hrl] at h; exact h
  refine h2 _ _ _ ?_
  simp only [hb_X10_ruled_2, hb_X10_ruled_14, hb_X10_ruled_39, hb_X10_ruled_47, hb_X10_ruled_53, hb_X10_ruled_63, hb_X10_ruled_69, hb_X10_ruled_73, hb_X10_ruled_82, hb_X10_ruled_92, hb_X10_ruled_155, hc_iconst, hc_lconst, hc_iload, hc_lload, hc_aload, hc_istore, hc_astore, hc_lstore, hc_iinc, hc_dup, hc_dup2, hc_pop, hc_iadd, hc_isub, hc_imul, hc_iaddw, hc_isubw, hc_imulw, hc_inegw, hc_idiv, hc_irem, hc_ineg, hc_b2, hc_b1, hc_i2l, hc_l2i, hc_ladd, hc_l2, hc_lsh, hc_lcmp, hc_if, hc_icmp, hc_jump, hc_getI, hc_getR, hc_putI, hc_putZ, hc_xald, hc_iast, hc_bast, hc_zast, hc_aald, hc_alen, hc_copy, hc_gets, hc_getsI, hc_sald, hc_ldcs, hc_sval, hc_scod, hc_slen, hc_sbald, hc_callI, hc_callL, hc_callV, hc_max, hc_min, hc_abs, hc_ireturn, hc_zreturn, hc_creturn, hc_lreturn, hc_return, hc_none, hc_switch, hv_sw, hv_get, hv_set, hv_set2, hv_mask, hv_fr, hv_noL, hv_pop, hv_pk, hv_isO, hv_isS, hv_any, hv_w, hv_cat, he_nil, he_i, he_r, he_l, hv_repl_0, hv_repl_s, if_true, if_false, and_true, true_and, and_self, Nat.zero_add, Nat.add_zero, Nat.reduceAdd, Nat.reduceLeDiff, List.length_cons, List.length_nil, Int.toNat_natCast, Bool.false_eq_true, reduceIte, Int.toNat_zero, Int.toNat_one, Int.reduceToNat, or_true, true_or, Int.reduceEq, Int.reduceLT, Int.reduceLE, Int.reduceNeg, Int.reduceAdd, Int.reduceSub, Int.reduceMul, Nat.reduceMul, Nat.reduceEqDiff, implies_true, false_implies, true_implies, not_true_eq_false, not_false_eq_true, ne_eq, or_false, false_or, and_false, false_and, or_self, Classical.not_not, Int.zero_add, Int.add_zero, lc_0, lc_22, lc_730, lc_902, lc_1074, lc_1447, lc_1824, lc_2081, lc_2135, lc_4258, lc_5723, lr_0, lt_14, ll_14, lr_2, lr_4, lr_5, lr_6, lr_7, lr_8, lt_1820, ll_1820, lr_9, lt_1822, ll_1822, lr_10, lr_11, lr_12, lr_13, lr_22, lt_30, ll_30, lr_1824, lt_1825, ll_1825, lr_2081, lt_2086, ll_2086, lr_2082, lt_2102, ll_2102, lr_2083, lt_2118, ll_2118, lr_2135, lt_2137, ll_2137, lr_4263, lt_4265, ll_4265, lr_5725, lt_5755, ll_5755, lr_5726, lt_5763, ll_5763, lr_5727, lt_5771, ll_5771, lr_5728, lt_6091, ll_6091, lr_5729, lt_6227, ll_6227, lr_5731, lt_6363, ll_6363, lr_5732, lt_6733, ll_6733, lr_5743, lt_7433, ll_7433, lr_5744, lt_7435, ll_7435, lr_5745, lt_7805, ll_7805, lr_5746, lt_7809, ll_7809, lr_5747, lt_8065, ll_8065, lr_5748, lt_8165, ll_8165, lr_5750, lt_8265, ll_8265, lr_5751, lt_8267, ll_8267, lr_5752, lt_8539, ll_8539, lr_5753, lt_9279, ll_9279, lr_731, lt_733, ll_733, lr_732, lt_899, ll_899, lr_903, lt_905, ll_905, lr_904, lt_1071, ll_1071, lr_1074, lt_1086, ll_1086, lr_1082, lt_1088, ll_1088, lr_1088, lt_1090, ll_1090, lr_1089, lt_1098, ll_1098, lr_1083, lt_1106, ll_1106, lr_1106, lt_1108, ll_1108, lr_1107, lt_1116, ll_1116, lr_1084, lt_1124, ll_1124, lr_1124, lt_1126, ll_1126, lr_1125, lt_1134, ll_1134, lr_1085, lt_1142, ll_1142, lr_1142, lt_1147, ll_1147, lr_1143, lt_1207, ll_1207, lr_1144, lt_1267, ll_1267, lr_1145, lt_1327, ll_1327, lr_1146, lt_1387, ll_1387, lr_1447, lt_1459, ll_1459, lr_1455, lt_1461, ll_1461, lr_1461, lt_1463, ll_1463, lr_1462, lt_1471, ll_1471, lr_1456, lt_1479, ll_1479, lr_1479, lt_1481, ll_1481, lr_1480, lt_1489, ll_1489, lr_1457, lt_1497, ll_1497, lr_1497, lt_1499, ll_1499, lr_1498, lt_1507, ll_1507, lr_1458, lt_1515, ll_1515, lr_1515, lt_1520, ll_1520, lr_1516, lt_1580, ll_1580, lr_1517, lt_1640, ll_1640, lr_1518, lt_1700, ll_1700, lr_1519, lt_1760, ll_1760]
  rw [e2s, hc]
  refine ⟨⟨by omega, by omega⟩, ⟨by omega, by omega⟩, fun g => ?_, fun g => ?_⟩
  · have : k = c := by omega
    subst this
    rw [hrl, Nat.sub_self] at h
    exact h
  · have hkc : k < c := by omega
    have tail := tail hkc
    have e0 : (88 + 24 * (s : Int) + 4 * k).toNat = 88 + 24 * s + 4 * k + 0 := by omega
    rw [e0]
    have eru : z (6091 + (88 + 24 * s + 4 * k + 0)) = ruc z s k 0 := rfl
    rw [eru]
    unfold felt at tail
    have ob := (hru k (by omega) (by rw [e93]; omega)).1
    have o0 : 0 ≤ ruc z s k 0 ∧ ruc z s k 0 ≤ 3 := by unfold ruc; rw [show 6091 + (88 + 24 * s + 4 * k + 0) = 6091 + 88 + 24 * s + 4 * k by omega]; exact ob
    refine ⟨⟨by omega, by omega⟩, ⟨by omega, by omega⟩, ⟨by omega, by omega⟩, ⟨by omega, by omega⟩, ⟨by omega, by omega⟩, fun c0 => ⟨fun c1 => ⟨fun c2 => ⟨by decide, ?_⟩, fun c2 => ⟨fun c3 => ⟨by decide, ⟨by omega, by omega⟩, ?_⟩, fun c3 => ⟨by decide, ?_⟩⟩⟩, fun c1 => ⟨⟨by omega, by omega⟩, ?_⟩⟩, fun c0 => ?_⟩
    · exact tail _ (by rw [if_neg c0, if_neg c1, if_neg c2])
    · exact tail _ (by rw [if_neg c0, if_neg c1, if_pos c2, if_neg (by omega)])
    · exact tail _ (by rw [if_neg c0, if_neg c1, if_pos c2, if_pos (by omega)])
    · have e : (1 : Int) - s = ((1 - s : Nat) : Int) := by omega
      rw [e]
      exact sp_breathOf l hbr (by omega) (hcs _ (by omega)) (tail _ (by rw [if_neg c0, if_pos c1]))
    · exact sp_breathOf l hbr hs (hcs _ hs) (tail _ (by rw [if_pos c0]))
