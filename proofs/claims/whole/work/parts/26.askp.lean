/-! ask, both -/
theorem T_len (k w : Int) : ((if w = 0 then T_size k else T_mark k).length : Int) ≤ 16 := by
  unfold T_size T_mark
  (repeat' split) <;> decide
theorem mo_ask (l : Launch) {x z : hm} {s p w : Int} (hc : ∀ k, k < 2 → 0 ≤ z (6091 + k) ∧ z (6091 + k) ≤ 8) {Q : Int → hm → Prop} (hbad : ¬ (okP z s p ∧ 0 ≤ w ∧ w ≤ 1) → ∀ y : hm, (∀ a, a ≠ 5723 → y a = z a) → Q (-1000001) y) (hst : okP z s p → 0 ≤ w → w ≤ 1 → z 6365 = 0 ∨ z 6368 = 0 → ∀ y : hm, (∀ a, a ≠ 5723 → y a = z a) → Q (-1000002) y)
    (hd : ∀ k q : Nat, s = k → p = q → k < 2 → q < 8 → (q : Int) < z (6091 + k) → ¬ (z 6365 = 0 ∨ z 6368 = 0) → okR z k q (z (6363 + (42 + 8 * k + q))) (z (6363 + (10 + 8 * k + q))) (z (6091 + (8 + 40 * k + 5 * q + 4))) ∧ 0 ≤ z (6363 + (26 + 8 * k + q)) ∧ z (6363 + (26 + 8 * k + q)) ≤ 4)
    (hok : ∀ k q : Nat, s = k → p = q → k < 2 → q < 8 → (q : Int) < z (6091 + k) → 0 ≤ w → w ≤ 1 → ¬ (z 6365 = 0 ∨ z 6368 = 0) → ∀ z' y : hm, (∀ a, a ≠ 5723 → a ≠ 5754 → z' a = z a) → TR 5754 9279 z' (if w = 0 then T_size (z (6363 + (26 + 8 * k + q)) + 1) else T_mark (z (6363 + (26 + 8 * k + q)) + 1)) y → Q (if w = 0 then F_size (z (6363 + (26 + 8 * k + q)) + 1) (z (6363 + (42 + 8 * k + q))) (z (6363 + (10 + 8 * k + q))) q (z (6091 + (8 + 40 * k + 5 * q + 4))) else F_mark (z (6363 + (26 + 8 * k + q)) + 1) (z (6363 + (42 + 8 * k + q))) (z (6363 + (10 + 8 * k + q))) q (z (6091 + (8 + 40 * k + 5 * q + 4)))) y) : hm_I l m_X10_ask 6 [Vr 5723, Vi s, Vi p, Vi w] z Q := by
  have F : ∀ a, a ≠ 5723 → hh_upd z 5723 0 a = z a := fun a ha => hh_upd_ne ha
  refine hr_X10_ask l (Nat.le_of_ble_eq_true rfl) ?_
  simp only [hb_X10_ask_24, hb_X10_ask_117, hb_X10_ask_109, hb_X10_ask_100, hb_X10_ask_94, hb_X10_ask_85, hb_X10_ask_79, hb_X10_ask_70, hb_X10_ask_64, hb_X10_ask_55, hb_X10_ask_37, hb_X10_ask_34, hb_X10_ask_27, hb_X10_ask_14, hb_X10_ask_0, hc_iconst, hc_lconst, hc_iload, hc_lload, hc_aload, hc_istore, hc_astore, hc_lstore, hc_iinc, hc_dup, hc_dup2, hc_pop, hc_iadd, hc_isub, hc_imul, hc_iaddw, hc_isubw, hc_imulw, hc_inegw, hc_idiv, hc_irem, hc_ineg, hc_b2, hc_b1, hc_i2l, hc_l2i, hc_ladd, hc_l2, hc_lsh, hc_lcmp, hc_if, hc_icmp, hc_jump, hc_getI, hc_getR, hc_putI, hc_putZ, hc_xald, hc_iast, hc_bast, hc_zast, hc_aald, hc_alen, hc_copy, hc_gets, hc_getsI, hc_sald, hc_ldcs, hc_sval, hc_scod, hc_slen, hc_sbald, hc_callI, hc_callL, hc_callV, hc_max, hc_min, hc_abs, hc_ireturn, hc_zreturn, hc_creturn, hc_lreturn, hc_return, hc_none, hc_switch, hv_sw, hv_get, hv_set, hv_set2, hv_mask, hv_fr, hv_noL, hv_pop, hv_pk, hv_isO, hv_isS, hv_any, hv_w, hv_cat, he_nil, he_i, he_r, he_l, hv_repl_0, hv_repl_s, if_true, if_false, and_true, true_and, and_self, Nat.zero_add, Nat.add_zero, Nat.reduceAdd, Nat.reduceLeDiff, List.length_cons, List.length_nil, Int.toNat_natCast, Bool.false_eq_true, reduceIte, Int.toNat_zero, Int.toNat_one, Int.reduceToNat, or_true, true_or, Int.reduceEq, Int.reduceLT, Int.reduceLE, Int.reduceNeg, Int.reduceAdd, Int.reduceSub, Int.reduceMul, Nat.reduceMul, Nat.reduceEqDiff, implies_true, false_implies, true_implies, not_true_eq_false, not_false_eq_true, ne_eq, or_false, false_or, and_false, false_and, or_self, Classical.not_not, Int.zero_add, Int.add_zero, lc_0, lc_22, lc_730, lc_902, lc_1074, lc_1447, lc_1824, lc_2081, lc_2135, lc_4258, lc_5723, lr_0, lt_14, ll_14, lr_2, lr_4, lr_5, lr_6, lr_7, lr_8, lt_1820, ll_1820, lr_9, lt_1822, ll_1822, lr_10, lr_11, lr_12, lr_13, lr_22, lt_30, ll_30, lr_1824, lt_1825, ll_1825, lr_2081, lt_2086, ll_2086, lr_2082, lt_2102, ll_2102, lr_2083, lt_2118, ll_2118, lr_2135, lt_2137, ll_2137, lr_4263, lt_4265, ll_4265, lr_5725, lt_5755, ll_5755, lr_5726, lt_5763, ll_5763, lr_5727, lt_5771, ll_5771, lr_5728, lt_6091, ll_6091, lr_5729, lt_6227, ll_6227, lr_5731, lt_6363, ll_6363, lr_5732, lt_6733, ll_6733, lr_5743, lt_7433, ll_7433, lr_5744, lt_7435, ll_7435, lr_5745, lt_7805, ll_7805, lr_5746, lt_7809, ll_7809, lr_5747, lt_8065, ll_8065, lr_5748, lt_8165, ll_8165, lr_5750, lt_8265, ll_8265, lr_5751, lt_8267, ll_8267, lr_5752, lt_8539, ll_8539, lr_5753, lt_9279, ll_9279, lr_731, lt_733, ll_733, lr_732, lt_899, ll_899, lr_903, lt_905, ll_905, lr_904, lt_1071, ll_1071, lr_1074, lt_1086, ll_1086, lr_1082, lt_1088, ll_1088, lr_1088, lt_1090, ll_1090, lr_1089, lt_1098, ll_1098, lr_1083, lt_1106, ll_1106, lr_1106, lt_1108, ll_1108, lr_1107, lt_1116, ll_1116, lr_1084, lt_1124, ll_1124, lr_1124, lt_1126, ll_1126, lr_1125, lt_1134, ll_1134, lr_1085, lt_1142, ll_1142, lr_1142, lt_1147, ll_1147, lr_1143, lt_1207, ll_1207, lr_1144, lt_1267, ll_1267, lr_1145, lt_1327, ll_1327, lr_1146, lt_1387, ll_1387, lr_1447, lt_1459, ll_1459, lr_1455, lt_1461, ll_1461, lr_1461, lt_1463, ll_1463, lr_1462, lt_1471, ll_1471, lr_1456, lt_1479, ll_1479, lr_1479, lt_1481, ll_1481, lr_1480, lt_1489, ll_1489, lr_1457, lt_1497, ll_1497, lr_1497, lt_1499, ll_1499, lr_1498, lt_1507, ll_1507, lr_1458, lt_1515, ll_1515, lr_1515, lt_1520, ll_1520, lr_1516, lt_1580, ll_1580, lr_1517, lt_1640, ll_1640, lr_1518, lt_1700, ll_1700, lr_1519, lt_1760, ll_1760]
  refine sp_isPullerM_a l (fun k hk => by rw [F _ (by omega)]; exact hc k hk) (fun k q e1 hk e2 hq => ?_) (fun g => hbad (fun c => g (by rw [F _ (by omega)]; exact c.1)) _ F)
  rw [F _ (by omega)] at hq
  subst e1 e2
  have hq8 : q < 8 := by have := hc k hk; omega
  have hP : okP z k q := ⟨by omega, by omega, by omega, hq⟩
  refine sp_in_b l (fun g1 g2 => ?_) (fun g => hbad (fun c => g c.2) _ F)
  refine sp_idle_a l (fun c => ?_) (fun c => hst hP g1 g2 (by rw [F 6365 (by omega), F 6368 (by omega)] at c; exact c) _ F)
  rw [F 6365 (by omega), F 6368 (by omega)] at c
  obtain ⟨⟨q1, q2, q3, q4, q5, q6, q7, q8⟩, d1, d2⟩ := hd k q rfl rfl hk hq8 hq c
  have hok := hok k q rfl rfl hk hq8 hq g1 g2 c
  have G : ∀ a, a ≠ 5723 → a ≠ 5754 → hh_upd (hh_upd z 5723 0) 5754 0 a = z a := fun a ha hb => by rw [hh_upd_ne hb]; exact F a ha
  have T0 : TR 5754 9279 (hh_upd (hh_upd z 5723 0) 5754 0) [] (hh_upd (hh_upd z 5723 0) 5754 0) := ⟨hh_upd_same _ _ _, fun j hj => absurd hj (Nat.not_lt_zero _), fun _ _ _ => rfl⟩
  have hok := hok (hh_upd (hh_upd z 5723 0) 5754 0)
  generalize hh_upd (hh_upd z 5723 0) 5754 0 = v at G T0 hok ⊢
  have hz : okR v k q (z (6363 + (42 + 8 * k + q))) (z (6363 + (10 + 8 * k + q))) (z (6091 + (8 + 40 * k + 5 * q + 4))) := ⟨q1, q2, G _ (by omega) (by omega), G _ (by omega) (by omega), G _ (by omega) (by omega), q6, q7, q8⟩
  refine sp_kindOfM l hk hq8 (by rw [G _ (by omega) (by omega)]; exact d1) (by rw [G _ (by omega) (by omega)]; exact d2) ?_
  rw [G _ (by omega) (by omega)]
  generalize hkk : z (6363 + (26 + 8 * k + q)) + 1 = kk at hok ⊢
  have n0 : ([] : List Int).length < 11 := by decide
  refine ⟨fun w1 => ?_, fun w1 => ?_⟩
  · have : w = 0 := by omega
    subst this
    have hok := fun y' T' => hok y' (fun a ha hb => G a ha hb) T'
    refine ⟨fun c1 => ⟨fun c2 => ⟨fun c3 => ?_, fun c3 => ?_⟩, fun c2 => ?_⟩, fun c1 => ?_⟩
    · refine sp_heavedSize l hz T0 n0 ?_
      rcases (by omega : kk = 2 ∨ kk = 3) with e | e
      · subst e; exact hok
      · subst e; exact hok
    · subst c3; exact sp_spent l hz T0 (by decide) hok
    · subst c2; exact sp_rested l hz T0 (by decide) hok
    · subst c1; exact sp_held l hz T0 (by decide) hok
  · subst w1
    exact sp_ownMark l hz (by omega) T0 (fun y' T' => hok y' (fun a ha hb => G a ha hb) T')
theorem pr_ask (l : Launch) {n : Nat} {x : hm} (hI : IV n x) {s p w : Int} : hm_I l m_X9_ask 7 [Vr 0, Vi s, Vi p, Vi w] x (fun r x1 => hm_I l m_X10_ask 6 [Vr 5723, Vi s, Vi p, Vi w] x1 (fun r2 x2 => r = r2 ∧ IV (n + 1) x2)) := by
  obtain ⟨j1, j2, j3, j4, j5, j6, j7, j8, j9, j10⟩ := hI
  have dd : ∀ k q : Nat, k < 2 → q < 8 → (q : Int) < x (6091 + k) → ¬ (x 6365 = 0 ∨ x 6368 = 0) → okR x k q (x (6363 + (42 + 8 * k + q))) (x (6363 + (10 + 8 * k + q))) (x (6091 + (8 + 40 * k + 5 * q + 4))) ∧ 0 ≤ x (6363 + (26 + 8 * k + q)) ∧ x (6363 + (26 + 8 * k + q)) ≤ 4 := by
    intro k q hk hq8 hq c
    obtain ⟨r1, r2, r3, r4, r5⟩ := j6.rt
    have hb : x 6365 = 1 := by omega
    have hg : 0 < x 6368 := by have := (r5 hb).2; omega
    have hd := j6.did hb hg hk hq8 hq
    refine ⟨⟨hk, hq8, rfl, rfl, rfl, hd.2.1.2, hd.2.2.2, ?_⟩, hd.1.2⟩
    obtain ⟨u1, u2, u3⟩ := j5
    rcases u2 with ⟨a, z⟩ | ⟨a, o⟩
    · have := z k (by omega); omega
    · have := ((o.1 k hk).2.1 q hq8 hq).2.2.2.2
      rw [show 6091 + (8 + 40 * k + 5 * q + 4) = 6091 + 8 + 40 * k + 5 * q + 4 by omega]
      exact this
  have same : ∀ (r : Int), (okP x s p ∧ 0 ≤ w ∧ w ≤ 1 → (x 6365 = 0 ∨ x 6368 = 0) ∧ r = -1000002) → (¬ (okP x s p ∧ 0 ≤ w ∧ w ≤ 1) → r = -1000001) → hm_I l m_X10_ask 6 [Vr 5723, Vi s, Vi p, Vi w] x (fun r2 x2 => r = r2 ∧ IV (n + 1) x2) := by
    intro r h1 h2
    refine mo_ask (x := x) l (fun k hk => (j5.cnt hk).1.2) (fun c y F => ⟨h2 c, (I1_congr (fun a ha => F a (by omega)) j1), (I2_congr (fun a ha => F a (by omega)) j2), (I3_congr (fun a ha => F a (by omega)) j3), (I4_congr (fun a ha => F a (by omega)) j4), (I5_congr (fun a ha => F a (by omega)) j5), (I6_congr (by omega) (fun a ha => F a (by omega)) j6), (I7_congr (by omega) (fun a ha => F a (by omega)) j7), (I8_congr (fun a ha => F a (by omega)) j8), (I9_congr (fun a ha => F a (by omega)) j9), (I10_congr (fun a ha => F a (by omega)) j10)⟩) (fun a b c d y F => ⟨(h1 ⟨a, b, c⟩).2, (I1_congr (fun a ha => F a (by omega)) j1), (I2_congr (fun a ha => F a (by omega)) j2), (I3_congr (fun a ha => F a (by omega)) j3), (I4_congr (fun a ha => F a (by omega)) j4), (I5_congr (fun a ha => F a (by omega)) j5), (I6_congr (by omega) (fun a ha => F a (by omega)) j6), (I7_congr (by omega) (fun a ha => F a (by omega)) j7), (I8_congr (fun a ha => F a (by omega)) j8), (I9_congr (fun a ha => F a (by omega)) j9), (I10_congr (fun a ha => F a (by omega)) j10)⟩) (fun k q e1 e2 hk hq8 hq c => dd k q hk hq8 hq c) (fun k q e1 e2 hk hq8 hq w0 w1 c => ?_)
    exact absurd (h1 ⟨⟨by omega, by omega, by omega, by subst e1 e2; exact hq⟩, w0, w1⟩).1 c
  refine hr_X9_ask l (Nat.le_of_ble_eq_true rfl) ?_
  simp only [hb_X9_ask_17, hb_X9_ask_142, hb_X9_ask_135, hb_X9_ask_125, hb_X9_ask_33, hb_X9_ask_30, hb_X9_ask_20, hb_X9_ask_9, hb_X9_ask_0, hc_iconst, hc_lconst, hc_iload, hc_lload, hc_aload, hc_istore, hc_astore, hc_lstore, hc_iinc, hc_dup, hc_dup2, hc_pop, hc_iadd, hc_isub, hc_imul, hc_iaddw, hc_isubw, hc_imulw, hc_inegw, hc_idiv, hc_irem, hc_ineg, hc_b2, hc_b1, hc_i2l, hc_l2i, hc_ladd, hc_l2, hc_lsh, hc_lcmp, hc_if, hc_icmp, hc_jump, hc_getI, hc_getR, hc_putI, hc_putZ, hc_xald, hc_iast, hc_bast, hc_zast, hc_aald, hc_alen, hc_copy, hc_gets, hc_getsI, hc_sald, hc_ldcs, hc_sval, hc_scod, hc_slen, hc_sbald, hc_callI, hc_callL, hc_callV, hc_max, hc_min, hc_abs, hc_ireturn, hc_zreturn, hc_creturn, hc_lreturn, hc_return, hc_none, hc_switch, hv_sw, hv_get, hv_set, hv_set2, hv_mask, hv_fr, hv_noL, hv_pop, hv_pk, hv_isO, hv_isS, hv_any, hv_w, hv_cat, he_nil, he_i, he_r, he_l, hv_repl_0, hv_repl_s, if_true, if_false, and_true, true_and, and_self, Nat.zero_add, Nat.add_zero, Nat.reduceAdd, Nat.reduceLeDiff, List.length_cons, List.length_nil, Int.toNat_natCast, Bool.false_eq_true, reduceIte, Int.toNat_zero, Int.toNat_one, Int.reduceToNat, or_true, true_or, Int.reduceEq, Int.reduceLT, Int.reduceLE, Int.reduceNeg, Int.reduceAdd, Int.reduceSub, Int.reduceMul, Nat.reduceMul, Nat.reduceEqDiff, implies_true, false_implies, true_implies, not_true_eq_false, not_false_eq_true, ne_eq, or_false, false_or, and_false, false_and, or_self, Classical.not_not, Int.zero_add, Int.add_zero, lc_0, lc_22, lc_730, lc_902, lc_1074, lc_1447, lc_1824, lc_2081, lc_2135, lc_4258, lc_5723, lr_0, lt_14, ll_14, lr_2, lr_4, lr_5, lr_6, lr_7, lr_8, lt_1820, ll_1820, lr_9, lt_1822, ll_1822, lr_10, lr_11, lr_12, lr_13, lr_22, lt_30, ll_30, lr_1824, lt_1825, ll_1825, lr_2081, lt_2086, ll_2086, lr_2082, lt_2102, ll_2102, lr_2083, lt_2118, ll_2118, lr_2135, lt_2137, ll_2137, lr_4263, lt_4265, ll_4265, lr_5725, lt_5755, ll_5755, lr_5726, lt_5763, ll_5763, lr_5727, lt_5771, ll_5771, lr_5728, lt_6091, ll_6091, lr_5729, lt_6227, ll_6227, lr_5731, lt_6363, ll_6363, lr_5732, lt_6733, ll_6733, lr_5743, lt_7433, ll_7433, lr_5744, lt_7435, ll_7435, lr_5745, lt_7805, ll_7805, lr_5746, lt_7809, ll_7809, lr_5747, lt_8065, ll_8065, lr_5748, lt_8165, ll_8165, lr_5750, lt_8265, ll_8265, lr_5751, lt_8267, ll_8267, lr_5752, lt_8539, ll_8539, lr_5753, lt_9279, ll_9279, lr_731, lt_733, ll_733, lr_732, lt_899, ll_899, lr_903, lt_905, ll_905, lr_904, lt_1071, ll_1071, lr_1074, lt_1086, ll_1086, lr_1082, lt_1088, ll_1088, lr_1088, lt_1090, ll_1090, lr_1089, lt_1098, ll_1098, lr_1083, lt_1106, ll_1106, lr_1106, lt_1108, ll_1108, lr_1107, lt_1116, ll_1116, lr_1084, lt_1124, ll_1124, lr_1124, lt_1126, ll_1126, lr_1125, lt_1134, ll_1134, lr_1085, lt_1142, ll_1142, lr_1142, lt_1147, ll_1147, lr_1143, lt_1207, ll_1207, lr_1144, lt_1267, ll_1267, lr_1145, lt_1327, ll_1327, lr_1146, lt_1387, ll_1387, lr_1447, lt_1459, ll_1459, lr_1455, lt_1461, ll_1461, lr_1461, lt_1463, ll_1463, lr_1462, lt_1471, ll_1471, lr_1456, lt_1479, ll_1479, lr_1479, lt_1481, ll_1481, lr_1480, lt_1489, ll_1489, lr_1457, lt_1497, ll_1497, lr_1497, lt_1499, ll_1499, lr_1498, lt_1507, ll_1507, lr_1458, lt_1515, ll_1515, lr_1515, lt_1520, ll_1520, lr_1516, lt_1580, ll_1580, lr_1517, lt_1640, ll_1640, lr_1518, lt_1700, ll_1700, lr_1519, lt_1760, ll_1760]
  refine sp_isPuller_a l (fun k hk => (j5.cnt hk).1.1) (fun k q e1 hk e2 hq => ?_) (fun g => same _ (fun c => absurd c.1 g) (fun _ => rfl))
  have hq8 : q < 8 := by have := (j5.cnt hk).1; omega
  subst e1 e2
  have hP : okP x k q := ⟨by omega, by omega, by omega, hq⟩
  refine sp_within_b l (fun g1 g2 => ?_) (fun g => same _ (fun c => absurd ⟨c.2.1, by omega⟩ g) (fun _ => rfl))
  refine sp_has_b l j6 (fun hb hg => ?_) (fun c => same _ (fun _ => ⟨c, rfl⟩) (fun e => absurd ⟨hP, g1, by omega⟩ e))
  have hn : ¬ (x 6365 = 0 ∨ x 6368 = 0) := by omega
  have hd := j6.did hb hg hk hq8 hq
  have hR := dd k q hk hq8 hq hn
  have htr := RM.tr j5.2.2 hk hq8 hq (k := 4) (by omega)
  refine sp_kindOf l hk hq8 hd.1.1 hd.1.2.1 hd.1.2.2 ?_
  have hd' := is_side730 hk
  simp only [Int.toNat_natCast]
  rw [lr_t1074_fo hk, lt_t1074_fo hk, ll_t1074_fo hk, lr_t1074_br hk, lt_t1074_br hk, ll_t1074_br hk, lr_m733 hk]
  simp only [sd_cls hd', sd_rf1 hd', sd_t4 hd', sd_l4 hd', sd_r4 hd' hq8, sd_tt hd' hq8, sd_tl hd' hq8, true_and]
  have u1 : ∀ (m : hm) b v, 4258 ≤ b → hh_upd m b v (1126 + 8 * k + q) = m (1126 + 8 * k + q) := fun m b v hb => hh_upd_ne (by omega)
  have u2 : ∀ (m : hm) b v, 4258 ≤ b → hh_upd m b v (1090 + 8 * k + q) = m (1090 + 8 * k + q) := fun m b v hb => hh_upd_ne (by omega)
  have u3 : ∀ (m : hm) b v, 4258 ≤ b → hh_upd m b v (735 + 82 * k + 12 + 5 * q + 4) = m (735 + 82 * k + 12 + 5 * q + 4) := fun m b v hb => hh_upd_ne (by omega)
  have htr' : x (735 + 82 * k + 12 + 5 * q + 4) = x (6091 + (8 + 40 * k + 5 * q + 4)) := htr
  simp only [u1, u2, u3, Nat.reduceLeDiff, hd.2.1.1, hd.2.2.1, htr']
  obtain ⟨⟨-, -, -, -, -, qf, qb, qg⟩, d1, d2⟩ := hR
  generalize hkk : x (6363 + (26 + 8 * k + q)) + 1 = kk
  generalize hff : x (6363 + (42 + 8 * k + q)) = f at *
  generalize hbb : x (6363 + (10 + 8 * k + q)) = b at *
  generalize hgg : x (6091 + (8 + 40 * k + 5 * q + 4)) = g at *
  generalize hzz : hh_upd (hh_upd (hh_upd (hh_upd (hh_upd (hh_upd x 4258 kk) 4259 q) 4260 f) 4261 b) 4262 g) 4264 0 = z
  have z0 : z 4258 = kk := by rw [← hzz]; simp [hh_upd]
  have z1 : z 4259 = q := by rw [← hzz]; simp [hh_upd]
  have z2 : z 4260 = f := by rw [← hzz]; simp [hh_upd]
  have z3 : z 4261 = b := by rw [← hzz]; simp [hh_upd]
  have z4 : z 4262 = g := by rw [← hzz]; simp [hh_upd]
  have z5 : z 4264 = 0 := by rw [← hzz]; simp [hh_upd]
  have zF : ∀ a, ¬ (4258 ≤ a ∧ a < 4281) → z a = x a := fun a ha => by
    rw [← hzz, hh_upd_ne (by omega), hh_upd_ne (by omega), hh_upd_ne (by omega), hh_upd_ne (by omega), hh_upd_ne (by omega), hh_upd_ne (by omega)]
  have hz : okZ (z 4259) (z 4260) (z 4261) (z 4262) := by
    rw [z1, z2, z3, z4]; exact ⟨⟨by omega, by omega⟩, qf, qb, qg⟩
  have T0 : TR 4264 4265 z [] z := ⟨z5, fun j hj => absurd hj (Nat.not_lt_zero _), fun _ _ _ => rfl⟩
  have fin : ∀ y : hm, TR 4264 4265 z (if w = 0 then T_size kk else T_mark kk) y → hm_I l m_X10_ask 6 [Vr 5723, Vi k, Vi q, Vi w] y (fun r2 x2 => (if w = 0 then F_size kk f b q g else F_mark kk f b q g) = r2 ∧ IV (n + 1) x2) := by
    intro y T
    have yF : ∀ a, ¬ (4258 ≤ a ∧ a < 4281) → y a = x a := fun a ha => by rw [T.2.2 a (by omega) (by omega)]; exact zF a ha
    refine mo_ask (x := x) l (fun k hk => by rw [yF _ (by omega)]; exact (j5.cnt hk).1.2) (fun c y' F => ?_) (fun a1 a2 a3 c y' F => ?_) (fun k2 q2 e1 e2 hk2 hq2 hq3 c => ?_) (fun k2 q2 e1 e2 hk2 hq2 hq3 w0 w1 c z' y' G T' => ?_)
    · exact absurd ⟨⟨by omega, by omega, by omega, by rw [Int.toNat_natCast, yF _ (by omega)]; exact hq⟩, g1, by omega⟩ c
    · rw [yF _ (by omega), yF _ (by omega)] at c
      omega
    · have a1 : k2 = k := by omega
      have a2 : q2 = q := by omega
      subst a1 a2
      rw [yF _ (by omega), yF _ (by omega), yF _ (by omega), yF _ (by omega), hff, hbb, hgg]
      exact ⟨⟨hk, hq8, by rw [yF _ (by omega)]; exact hff, by rw [yF _ (by omega)]; exact hbb, by rw [yF _ (by omega)]; exact hgg, qf, qb, qg⟩, d1, d2⟩
    · have a1 : k2 = k := by omega
      have a2 : q2 = q := by omega
      subst a1 a2
      rw [yF _ (by omega), hkk] at T'
      rw [yF _ (by omega), yF _ (by omega), yF _ (by omega), yF _ (by omega), hkk, hff, hbb, hgg]
      have F : ∀ a, (¬ (4258 ≤ a ∧ a < 4281) ∧ a ≠ 5723) ∧ a ≠ 5754 ∧ ¬ (9279 ≤ a ∧ a < 9295) → y' a = x a := fun a ha => by
        rw [T'.2.2 a (by omega) (by omega), G a (by omega) (by omega)]; exact yF a ha.1.1
      have hL := T_len kk w
      have J10 : I10 y' := by
        have c1 : ∀ a, 4264 ≤ a → a < 4281 → y' a = y a := fun a h1 h2 => by rw [T'.2.2 a (by omega) (by omega), G a (by omega) (by omega)]
        refine ⟨⟨?_, ?_, ?_⟩, fun j hj hl => ?_⟩
        · rw [c1 _ (by omega) (by omega), T.1, T'.1]
        · rw [c1 _ (by omega) (by omega), T.1]; omega
        · rw [c1 _ (by omega) (by omega), T.1]; exact hL
        · rw [c1 _ (by omega) (by omega), T.1] at hl
          rw [c1 _ (by omega) (by omega), T.2.1 j (by omega), T'.2.1 j (by omega)]
      exact ⟨rfl, (I1_congr (fun a ha => F a (by omega)) j1), (I2_congr (fun a ha => F a (by omega)) j2), (I3_congr (fun a ha => F a (by omega)) j3), (I4_congr (fun a ha => F a (by omega)) j4), (I5_congr (fun a ha => F a (by omega)) j5), (I6_congr (by omega) (fun a ha => F a (by omega)) j6), (I7_congr (by omega) (fun a ha => F a (by omega)) j7), (I8_congr (fun a ha => F a (by omega)) j8), (I9_congr (fun a ha => F a (by omega)) j9), J10⟩
  have hk15 : 1 ≤ kk ∧ kk ≤ 5 := by omega
  have fz : w = 0 → hm_I l m_X1_size 6 [Vr 4258] z (fun r x' => hm_I l m_X10_ask 6 [Vr 5723, Vi k, Vi q, Vi w] x' (fun r2 x2 => r = r2 ∧ IV (n + 1) x2)) := fun c => by
    rw [if_pos c, if_pos c] at fin
    refine sp_size l hz z0 hk15 T0 (fun y T => ?_)
    rw [z1, z2, z3, z4]
    exact fin y T
  have fm : ¬ w = 0 → hm_I l m_X1_mark 6 [Vr 4258] z (fun r x' => hm_I l m_X10_ask 6 [Vr 5723, Vi k, Vi q, Vi w] x' (fun r2 x2 => r = r2 ∧ IV (n + 1) x2)) := fun c => by
    rw [if_neg c, if_neg c] at fin
    refine sp_mark l hz z0 hk15 T0 (fun y T => ?_)
    rw [z1, z2, z3, z4]
    exact fin y T
  (repeat' (with_reducible refine And.intro ?_ ?_)) <;> first | exact fz | exact fm | exact trivial | omega | exact ⟨by omega, by omega⟩
