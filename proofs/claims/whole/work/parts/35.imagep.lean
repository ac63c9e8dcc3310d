/-! image and restore, both -/
theorem im_match {k : Nat} (hk : k < 2) : IsMatch (4633 + 545 * k) := by unfold IsMatch; omega
theorem im_tug {k : Nat} (hk : k < 2) : IsTug (4805 + 545 * k) := by unfold IsTug; omega
theorem pr_image (l : Launch) {n : Nat} {x : hm} (hI : IV n x) {k : Int} : hm_I l m_X9_image 3 [Vr 0, Vi k] x (fun r x1 => hm_I l m_X10_image 2 [Vr 5723, Vi k] x1 (fun r2 x2 => r = r2 ∧ IV (n + 1) x2)) := by
  obtain ⟨j1, j2, j3, j4, j5, j6, j7, j8, j9, j10⟩ := hI
  have e5 : x 730 = x 5730 := j5.1
  refine hr_X9_image l (Nat.le_of_ble_eq_true rfl) ?_
  simp only [hb_X9_image_24, hb_X9_image_21, hb_X9_image_11, hb_X9_image_8, hb_X9_image_0, hc_iconst, hc_lconst, hc_iload, hc_lload, hc_aload, hc_istore, hc_astore, hc_lstore, hc_iinc, hc_dup, hc_dup2, hc_pop, hc_iadd, hc_isub, hc_imul, hc_iaddw, hc_isubw, hc_imulw, hc_inegw, hc_idiv, hc_irem, hc_ineg, hc_b2, hc_b1, hc_i2l, hc_l2i, hc_ladd, hc_l2, hc_lsh, hc_lcmp, hc_if, hc_icmp, hc_jump, hc_getI, hc_getR, hc_putI, hc_putZ, hc_xald, hc_iast, hc_bast, hc_zast, hc_aald, hc_alen, hc_copy, hc_gets, hc_getsI, hc_sald, hc_ldcs, hc_sval, hc_scod, hc_slen, hc_sbald, hc_callI, hc_callL, hc_callV, hc_max, hc_min, hc_abs, hc_ireturn, hc_zreturn, hc_creturn, hc_lreturn, hc_return, hc_none, hc_switch, hv_sw, hv_get, hv_set, hv_set2, hv_mask, hv_fr, hv_noL, hv_pop, hv_pk, hv_isO, hv_isS, hv_any, hv_w, hv_cat, he_nil, he_i, he_r, he_l, hv_repl_0, hv_repl_s, if_true, if_false, and_true, true_and, and_self, Nat.zero_add, Nat.add_zero, Nat.reduceAdd, Nat.reduceLeDiff, List.length_cons, List.length_nil, Int.toNat_natCast, Bool.false_eq_true, reduceIte, Int.toNat_zero, Int.toNat_one, Int.reduceToNat, or_true, true_or, Int.reduceEq, Int.reduceLT, Int.reduceLE, Int.reduceNeg, Int.reduceAdd, Int.reduceSub, Int.reduceMul, Nat.reduceMul, Nat.reduceEqDiff, implies_true, false_implies, true_implies, not_true_eq_false, not_false_eq_true, ne_eq, or_false, false_or, and_false, false_and, or_self, Classical.not_not, Int.zero_add, Int.add_zero, lc_0, lc_22, lc_730, lc_902, lc_1074, lc_1447, lc_1824, lc_2081, lc_2135, lc_4258, lc_5723, lr_0, lt_14, ll_14, lr_2, lr_4, lr_5, lr_6, lr_7, lr_8, lt_1820, ll_1820, lr_9, lt_1822, ll_1822, lr_10, lr_11, lr_12, lr_13, lr_22, lt_30, ll_30, lr_1824, lt_1825, ll_1825, lr_2081, lt_2086, ll_2086, lr_2082, lt_2102, ll_2102, lr_2083, lt_2118, ll_2118, lr_2135, lt_2137, ll_2137, lr_4263, lt_4265, ll_4265, lr_5725, lt_5755, ll_5755, lr_5726, lt_5763, ll_5763, lr_5727, lt_5771, ll_5771, lr_5728, lt_6091, ll_6091, lr_5729, lt_6227, ll_6227, lr_5731, lt_6363, ll_6363, lr_5732, lt_6733, ll_6733, lr_5743, lt_7433, ll_7433, lr_5744, lt_7435, ll_7435, lr_5745, lt_7805, ll_7805, lr_5746, lt_7809, ll_7809, lr_5747, lt_8065, ll_8065, lr_5748, lt_8165, ll_8165, lr_5750, lt_8265, ll_8265, lr_5751, lt_8267, ll_8267, lr_5752, lt_8539, ll_8539, lr_5753, lt_9279, ll_9279, lr_731, lt_733, ll_733, lr_732, lt_899, ll_899, lr_903, lt_905, ll_905, lr_904, lt_1071, ll_1071, lr_1074, lt_1086, ll_1086, lr_1082, lt_1088, ll_1088, lr_1088, lt_1090, ll_1090, lr_1089, lt_1098, ll_1098, lr_1083, lt_1106, ll_1106, lr_1106, lt_1108, ll_1108, lr_1107, lt_1116, ll_1116, lr_1084, lt_1124, ll_1124, lr_1124, lt_1126, ll_1126, lr_1125, lt_1134, ll_1134, lr_1085, lt_1142, ll_1142, lr_1142, lt_1147, ll_1147, lr_1143, lt_1207, ll_1207, lr_1144, lt_1267, ll_1267, lr_1145, lt_1327, ll_1327, lr_1146, lt_1387, ll_1387, lr_1447, lt_1459, ll_1459, lr_1455, lt_1461, ll_1461, lr_1461, lt_1463, ll_1463, lr_1462, lt_1471, ll_1471, lr_1456, lt_1479, ll_1479, lr_1479, lt_1481, ll_1481, lr_1480, lt_1489, ll_1489, lr_1457, lt_1497, ll_1497, lr_1497, lt_1499, ll_1499, lr_1498, lt_1507, ll_1507, lr_1458, lt_1515, ll_1515, lr_1515, lt_1520, ll_1520, lr_1516, lt_1580, ll_1580, lr_1517, lt_1640, ll_1640, lr_1518, lt_1700, ll_1700, lr_1519, lt_1760, ll_1760]
  refine sp_within_b l (fun g1 g2 => ⟨fun c1 => ?_, fun c1 => ?_⟩) (fun g => ?_)
  · obtain ⟨q, rfl⟩ := Int.eq_ofNat_of_zero_le g1
    have hq : q < 2 := by omega
    have hO : x 730 = 1 ∧ OM 6091 x := by
      rcases j5.2.1 with ⟨a, -⟩ | ⟨a, o⟩
      · exact absurd a c1
      · exact ⟨a, o⟩
    obtain ⟨k1, k2, k3⟩ := j6
    simp only [Int.toNat_natCast, lr_imm hq, lr_imt hq, mt_cls (im_match hq), tg_cls (im_tug hq), true_and]
    refine ⟨⟨by omega, by omega⟩, ?_⟩
    refine sp_matchBecome l (im_match hq) (Or.inl rfl) (by omega) (Or.inr hO.1) (fun y a1 a2 a3 => ?_)
    refine ⟨⟨by omega, by omega⟩, ?_⟩
    have b01 : y (1074 + 1) = 0 ∨ y (1074 + 1) = 1 := by
      rw [a3 _ (by omega)]
      have := k1.1
      have h2 := k2.1
      omega
    refine sp_tugBecome l (im_tug hq) (Or.inl rfl) (by omega) b01 (fun z b1 b2 => ?_)
    have G : ∀ a, ¬ (4633 + 545 * q ≤ a ∧ a < 4633 + 545 * q + 545) → z a = x a := fun a ha => by rw [b2 _ (by omega), a3 _ (by omega)]
    refine mo_image l (fun c => absurd ⟨g1, g2⟩ c) (fun _ _ c => absurd (by rw [G _ (by omega), ← e5] at c; exact c) c1) (fun q2 e1 hq2 _ v c2 c3 c4 c5 => ⟨rfl, ?_⟩)
    have : q2 = q := by omega
    subst this
    have F : ∀ a, a ≠ 5723 ∧ ¬ (4633 + 545 * q2 ≤ a ∧ a < 4633 + 545 * q2 + 545) ∧ a ≠ 8265 + q2 ∧ ¬ (8267 + 136 * q2 ≤ a ∧ a < 8267 + 136 * q2 + 136) ∧ ¬ (8539 + 370 * q2 ≤ a ∧ a < 8539 + 370 * q2 + 370) → v a = x a := fun a ha => by rw [c5 a ha.1 ha.2.2.1 ha.2.2.2.1 ha.2.2.2.2, G a ha.2.1]
    have vz : ∀ a, 4633 + 545 * q2 ≤ a → a < 4633 + 545 * q2 + 545 → v a = z a := fun a h1 h2 => c5 a (by omega) (by omega) (by omega) (by omega)
    have m0 : v (4633 + 545 * q2) = 1 := by rw [vz _ (by omega) (by omega), b2 _ (by omega), a1]; exact hO.1
    have mm : ∀ k, useM k → v (4633 + 545 * q2 + k) = x (730 + k) := fun k hk => by
      have hk' := hk
      unfold useM at hk'
      rw [vz _ (by omega) (by omega), b2 _ (by omega), a2 k hk]
    have tt : ∀ k, useT k → v (4805 + 545 * q2 + k) = x (1074 + k) := fun k hk => by
      have hk' := hk
      unfold useT at hk'
      rw [vz _ (by omega) (by omega), b1 k hk, a3 _ (by omega)]
    have bb : ∀ k, k < 136 → v (8267 + 136 * q2 + k) = x (6091 + k) := fun k hk => by rw [c3 k hk, G _ (by omega)]
    have ww : ∀ k, k < 370 → v (8539 + 370 * q2 + k) = x (6363 + k) := fun k hk => by rw [c4 k hk, G _ (by omega)]
    have J7 : I7 (n + 1) v := by
      intro k hk
      by_cases e : k = q2
      · subst e
        refine ⟨by rw [c2, m0], Or.inr ⟨⟨c2, by rw [F 5730 (by omega), ← e5]; exact hO.1⟩, RM_move2 mm bb j5.2.2, OM_move bb hO.2, RT_move2 tt bb ww k1, OT_move (by omega) bb ww k2⟩⟩
      · have o := j7 k hk
        rw [F (8265 + k) (by omega), F (4633 + 545 * k) (by omega), F 5730 (by omega)]
        refine ⟨o.1, ?_⟩
        rcases o.2 with a | ⟨a, g1, g2, g3, g4⟩
        · exact Or.inl a
        · exact Or.inr ⟨a, RM_move (fun k hk => F _ (by omega)) (fun k hk => F _ (by omega)) g1, OM_move (fun k hk => F _ (by omega)) g2, RT_move (fun k hk => F _ (by omega)) (fun k hk => F _ (by omega)) (fun k hk => F _ (by omega)) g3, OT_move (by omega) (fun k hk => F _ (by omega)) (fun k hk => F _ (by omega)) g4⟩
    have j6 : I6 n x := ⟨k1, k2, k3⟩
    exact ⟨(I1_congr (fun a ha => F a (by omega)) j1), (I2_congr (fun a ha => F a (by omega)) j2), (I3_congr (fun a ha => F a (by omega)) j3), (I4_congr (fun a ha => F a (by omega)) j4), (I5_congr (fun a ha => F a (by omega)) j5), (I6_congr (by omega) (fun a ha => F a (by omega)) j6), J7, (I8_congr (fun a ha => F a (by omega)) j8), (I9_congr (fun a ha => F a (by omega)) j9), (I10_congr (fun a ha => F a (by omega)) j10)⟩
  · refine mo_image l (fun c => absurd ⟨g1, g2⟩ c) (fun _ _ c y F => ⟨rfl, (I1_congr (fun a ha => F a (by omega)) j1), (I2_congr (fun a ha => F a (by omega)) j2), (I3_congr (fun a ha => F a (by omega)) j3), (I4_congr (fun a ha => F a (by omega)) j4), (I5_congr (fun a ha => F a (by omega)) j5), (I6_congr (by omega) (fun a ha => F a (by omega)) j6), (I7_congr (by omega) (fun a ha => F a (by omega)) j7), (I8_congr (fun a ha => F a (by omega)) j8), (I9_congr (fun a ha => F a (by omega)) j9), (I10_congr (fun a ha => F a (by omega)) j10)⟩) (fun q2 e1 hq2 c => absurd (by rw [← e5]; exact c1) c)
  · refine mo_image l (fun c y F => ⟨rfl, (I1_congr (fun a ha => F a (by omega)) j1), (I2_congr (fun a ha => F a (by omega)) j2), (I3_congr (fun a ha => F a (by omega)) j3), (I4_congr (fun a ha => F a (by omega)) j4), (I5_congr (fun a ha => F a (by omega)) j5), (I6_congr (by omega) (fun a ha => F a (by omega)) j6), (I7_congr (by omega) (fun a ha => F a (by omega)) j7), (I8_congr (fun a ha => F a (by omega)) j8), (I9_congr (fun a ha => F a (by omega)) j9), (I10_congr (fun a ha => F a (by omega)) j10)⟩) (fun h1 h2 => absurd ⟨h1, h2⟩ g) (fun q2 e1 hq2 => absurd ⟨by omega, by omega⟩ g)
theorem pr_restore (l : Launch) {n : Nat} {x : hm} (hI : IV n x) {k : Int} : hm_I l m_X9_restore 3 [Vr 0, Vi k] x (fun r x1 => hm_I l m_X10_restore 2 [Vr 5723, Vi k] x1 (fun r2 x2 => r = r2 ∧ IV (n + 1) x2)) := by
  obtain ⟨j1, j2, j3, j4, j5, j6, j7, j8, j9, j10⟩ := hI
  refine hr_X9_restore l (Nat.le_of_ble_eq_true rfl) ?_
  simp only [hb_X9_restore_26, hb_X9_restore_23, hb_X9_restore_11, hb_X9_restore_8, hb_X9_restore_0, hc_iconst, hc_lconst, hc_iload, hc_lload, hc_aload, hc_istore, hc_astore, hc_lstore, hc_iinc, hc_dup, hc_dup2, hc_pop, hc_iadd, hc_isub, hc_imul, hc_iaddw, hc_isubw, hc_imulw, hc_inegw, hc_idiv, hc_irem, hc_ineg, hc_b2, hc_b1, hc_i2l, hc_l2i, hc_ladd, hc_l2, hc_lsh, hc_lcmp, hc_if, hc_icmp, hc_jump, hc_getI, hc_getR, hc_putI, hc_putZ, hc_xald, hc_iast, hc_bast, hc_zast, hc_aald, hc_alen, hc_copy, hc_gets, hc_getsI, hc_sald, hc_ldcs, hc_sval, hc_scod, hc_slen, hc_sbald, hc_callI, hc_callL, hc_callV, hc_max, hc_min, hc_abs, hc_ireturn, hc_zreturn, hc_creturn, hc_lreturn, hc_return, hc_none, hc_switch, hv_sw, hv_get, hv_set, hv_set2, hv_mask, hv_fr, hv_noL, hv_pop, hv_pk, hv_isO, hv_isS, hv_any, hv_w, hv_cat, he_nil, he_i, he_r, he_l, hv_repl_0, hv_repl_s, if_true, if_false, and_true, true_and, and_self, Nat.zero_add, Nat.add_zero, Nat.reduceAdd, Nat.reduceLeDiff, List.length_cons, List.length_nil, Int.toNat_natCast, Bool.false_eq_true, reduceIte, Int.toNat_zero, Int.toNat_one, Int.reduceToNat, or_true, true_or, Int.reduceEq, Int.reduceLT, Int.reduceLE, Int.reduceNeg, Int.reduceAdd, Int.reduceSub, Int.reduceMul, Nat.reduceMul, Nat.reduceEqDiff, implies_true, false_implies, true_implies, not_true_eq_false, not_false_eq_true, ne_eq, or_false, false_or, and_false, false_and, or_self, Classical.not_not, Int.zero_add, Int.add_zero, lc_0, lc_22, lc_730, lc_902, lc_1074, lc_1447, lc_1824, lc_2081, lc_2135, lc_4258, lc_5723, lr_0, lt_14, ll_14, lr_2, lr_4, lr_5, lr_6, lr_7, lr_8, lt_1820, ll_1820, lr_9, lt_1822, ll_1822, lr_10, lr_11, lr_12, lr_13, lr_22, lt_30, ll_30, lr_1824, lt_1825, ll_1825, lr_2081, lt_2086, ll_2086, lr_2082, lt_2102, ll_2102, lr_2083, lt_2118, ll_2118, lr_2135, lt_2137, ll_2137, lr_4263, lt_4265, ll_4265, lr_5725, lt_5755, ll_5755, lr_5726, lt_5763, ll_5763, lr_5727, lt_5771, ll_5771, lr_5728, lt_6091, ll_6091, lr_5729, lt_6227, ll_6227, lr_5731, lt_6363, ll_6363, lr_5732, lt_6733, ll_6733, lr_5743, lt_7433, ll_7433, lr_5744, lt_7435, ll_7435, lr_5745, lt_7805, ll_7805, lr_5746, lt_7809, ll_7809, lr_5747, lt_8065, ll_8065, lr_5748, lt_8165, ll_8165, lr_5750, lt_8265, ll_8265, lr_5751, lt_8267, ll_8267, lr_5752, lt_8539, ll_8539, lr_5753, lt_9279, ll_9279, lr_731, lt_733, ll_733, lr_732, lt_899, ll_899, lr_903, lt_905, ll_905, lr_904, lt_1071, ll_1071, lr_1074, lt_1086, ll_1086, lr_1082, lt_1088, ll_1088, lr_1088, lt_1090, ll_1090, lr_1089, lt_1098, ll_1098, lr_1083, lt_1106, ll_1106, lr_1106, lt_1108, ll_1108, lr_1107, lt_1116, ll_1116, lr_1084, lt_1124, ll_1124, lr_1124, lt_1126, ll_1126, lr_1125, lt_1134, ll_1134, lr_1085, lt_1142, ll_1142, lr_1142, lt_1147, ll_1147, lr_1143, lt_1207, ll_1207, lr_1144, lt_1267, ll_1267, lr_1145, lt_1327, ll_1327, lr_1146, lt_1387, ll_1387, lr_1447, lt_1459, ll_1459, lr_1455, lt_1461, ll_1461, lr_1461, lt_1463, ll_1463, lr_1462, lt_1471, ll_1471, lr_1456, lt_1479, ll_1479, lr_1479, lt_1481, ll_1481, lr_1480, lt_1489, ll_1489, lr_1457, lt_1497, ll_1497, lr_1497, lt_1499, ll_1499, lr_1498, lt_1507, ll_1507, lr_1458, lt_1515, ll_1515, lr_1515, lt_1520, ll_1520, lr_1516, lt_1580, ll_1580, lr_1517, lt_1640, ll_1640, lr_1518, lt_1700, ll_1700, lr_1519, lt_1760, ll_1760]
  refine sp_within_b l (fun g1 g2 => ?_) (fun g => ?_)
  · obtain ⟨q, rfl⟩ := Int.eq_ofNat_of_zero_le g1
    have hq : q < 2 := by omega
    obtain ⟨o1, o2⟩ := j7 q hq
    simp only [Int.toNat_natCast, lr_imm hq, lr_imt hq, mt_cls (im_match hq), tg_cls (im_tug hq), true_and]
    refine ⟨⟨by omega, by omega⟩, fun c1 => ?_, fun c1 => ?_⟩
    · rcases o2 with a | ⟨⟨a, a'⟩, g3, g4, g5, g6⟩
      · exact absurd (by rw [← o1]; exact a) c1
      · have s1 : x (4633 + 545 * q) = 1 := by rw [← o1]; exact a
        refine ⟨⟨by omega, by omega⟩, ?_⟩
        refine sp_matchBecome l (Or.inl rfl) (im_match hq) (by omega) (Or.inr s1) (fun y a1 a2 a3 => ?_)
        refine ⟨⟨by omega, by omega⟩, ?_⟩
        have b01 : y (4805 + 545 * q + 1) = 0 ∨ y (4805 + 545 * q + 1) = 1 := by
          rw [a3 _ (by omega)]
          have h1 := g5.1
          have h2 := g6.1
          omega
        refine sp_tugBecome l (Or.inl rfl) (im_tug hq) (by omega) b01 (fun z b1 b2 => ?_)
        have G : ∀ a, ¬ (730 ≤ a ∧ a < 902) ∧ ¬ (1074 ≤ a ∧ a < 1447) → z a = x a := fun a ha => by rw [b2 _ ha.2, a3 _ ha.1]
        refine mo_restore l (fun c => absurd ⟨g1, g2⟩ c) (fun q2 e1 hq2 c => ?_) (fun q2 e1 hq2 _ v c3 c4 c5 => ⟨rfl, ?_⟩)
        · have : q2 = q := by omega
          subst this
          rw [G _ (by omega), a] at c
          exact absurd c (by decide)
        have : q2 = q := by omega
        subst this
        have F : ∀ a, a ≠ 5723 ∧ ¬ (730 ≤ a ∧ a < 902) ∧ ¬ (1074 ≤ a ∧ a < 1447) ∧ ¬ (6091 ≤ a ∧ a < 6227) ∧ ¬ (6363 ≤ a ∧ a < 6733) → v a = x a := fun a ha => by rw [c5 a ha.1 ha.2.2.2.1 ha.2.2.2.2, G a ⟨ha.2.1, ha.2.2.1⟩]
        have vz : ∀ a, a < 5723 → v a = z a := fun a h1 => c5 a (by omega) (by omega) (by omega)
        have m0 : v 730 = 1 := by rw [vz _ (by omega), b2 _ (by omega), a1]; exact s1
        have mm : ∀ k, useM k → v (730 + k) = x (4633 + 545 * q2 + k) := fun k hk => by
          have hk' := hk
          unfold useM at hk'
          rw [vz _ (by omega), b2 _ (by omega), a2 k hk]
        have tt : ∀ k, useT k → v (1074 + k) = x (4805 + 545 * q2 + k) := fun k hk => by
          have hk' := hk
          unfold useT at hk'
          rw [vz _ (by omega), b1 k hk, a3 _ (by omega)]
        have bb : ∀ k, k < 136 → v (6091 + k) = x (8267 + 136 * q2 + k) := fun k hk => by rw [c3 k hk, G _ (by omega)]
        have ww : ∀ k, k < 370 → v (6363 + k) = x (8539 + 370 * q2 + k) := fun k hk => by rw [c4 k hk, G _ (by omega)]
        have J5 : I5 v := ⟨by rw [m0, F 5730 (by omega)]; exact a'.symm, Or.inr ⟨m0, OM_move bb g4⟩, RM_move2 mm bb g3⟩
        have J6 : I6 (n + 1) v := ⟨RT_move2 tt bb ww g5, OT_move (by omega) bb ww g6, fun e => by rw [F 5730 (by omega), a'] at e; exact absurd e (by decide)⟩
        exact ⟨(I1_congr (fun a ha => F a (by omega)) j1), (I2_congr (fun a ha => F a (by omega)) j2), (I3_congr (fun a ha => F a (by omega)) j3), (I4_congr (fun a ha => F a (by omega)) j4), J5, J6, (I7_congr (by omega) (fun a ha => F a (by omega)) j7), (I8_congr (fun a ha => F a (by omega)) j8), (I9_congr (fun a ha => F a (by omega)) j9), (I10_congr (fun a ha => F a (by omega)) j10)⟩
    · refine mo_restore l (fun c => absurd ⟨g1, g2⟩ c) (fun q2 e1 hq2 c y F => ⟨rfl, (I1_congr (fun a ha => F a (by omega)) j1), (I2_congr (fun a ha => F a (by omega)) j2), (I3_congr (fun a ha => F a (by omega)) j3), (I4_congr (fun a ha => F a (by omega)) j4), (I5_congr (fun a ha => F a (by omega)) j5), (I6_congr (by omega) (fun a ha => F a (by omega)) j6), (I7_congr (by omega) (fun a ha => F a (by omega)) j7), (I8_congr (fun a ha => F a (by omega)) j8), (I9_congr (fun a ha => F a (by omega)) j9), (I10_congr (fun a ha => F a (by omega)) j10)⟩) (fun q2 e1 hq2 c => ?_)
      have : q2 = q := by omega
      subst this
      exact absurd (by rw [o1]; exact c1) c
  · refine mo_restore l (fun c y F => ⟨rfl, (I1_congr (fun a ha => F a (by omega)) j1), (I2_congr (fun a ha => F a (by omega)) j2), (I3_congr (fun a ha => F a (by omega)) j3), (I4_congr (fun a ha => F a (by omega)) j4), (I5_congr (fun a ha => F a (by omega)) j5), (I6_congr (by omega) (fun a ha => F a (by omega)) j6), (I7_congr (by omega) (fun a ha => F a (by omega)) j7), (I8_congr (fun a ha => F a (by omega)) j8), (I9_congr (fun a ha => F a (by omega)) j9), (I10_congr (fun a ha => F a (by omega)) j10)⟩) (fun q2 e1 hq2 => absurd ⟨by omega, by omega⟩ g) (fun q2 e1 hq2 => absurd ⟨by omega, by omega⟩ g)
