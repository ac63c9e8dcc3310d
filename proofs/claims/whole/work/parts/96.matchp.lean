/-! match, both -/
theorem RMr_RM {m : Nat} {r : Nat → Int} {y z : hm} (h : RMr m r y) {m' : Nat} (hm : ∀ k, useM k → z (m' + k) = y (m + k)) (hb : ∀ k, k < 136 → z (6091 + k) = r k) : RM m' 6091 z := by
  refine ⟨fun s hs => ?_, fun i hi => ?_⟩
  · obtain ⟨g1, g2, g3, g4⟩ := h.1 s hs
    have u1 := hm (5 + 82 * s) (by unfold useM; omega)
    have u2 := hm (7 + 82 * s) (by unfold useM; omega)
    rw [← Nat.add_assoc, ← Nat.add_assoc] at u1 u2
    rw [u1, u2, hb s (by omega), Nat.add_assoc 6091 2 s, hb (2 + s) (by omega)]
    refine ⟨g1, g2, fun p hp hl k hk => ?_, fun q hq hl k hk => ?_⟩
    · have u := hm (17 + 82 * s + 5 * p + k) (by unfold useM; rcases (show s = 0 ∨ s = 1 by omega) with rfl | rfl <;> omega)
      rw [show m' + 17 + 82 * s + 5 * p + k = m' + (17 + 82 * s + 5 * p + k) by omega, u, show m + (17 + 82 * s + 5 * p + k) = m + 17 + 82 * s + 5 * p + k by omega, g3 p hp hl k hk, show 6091 + 8 + 40 * s + 5 * p + k = 6091 + (8 + 40 * s + 5 * p + k) by omega, hb _ (by omega)]
    · have u := hm (63 + 82 * s + 4 * q + k) (by unfold useM; rcases (show s = 0 ∨ s = 1 by omega) with rfl | rfl <;> omega)
      rw [show m' + 63 + 82 * s + 4 * q + k = m' + (63 + 82 * s + 4 * q + k) by omega, u, show m + (63 + 82 * s + 4 * q + k) = m + 63 + 82 * s + 4 * q + k by omega, g4 q hq hl k hk, show 6091 + 88 + 24 * s + 4 * q + k = 6091 + (88 + 24 * s + 4 * q + k) by omega, hb _ (by omega)]
  · have u := hm (169 + i) (by unfold useM; omega)
    rw [Nat.add_assoc m' 169 i, u, ← Nat.add_assoc, h.2 i hi, Nat.add_assoc 6091 5 i, hb _ (by omega)]
theorem sdB_OM {r : Nat → Int} {z : hm} (hb : ∀ k, k < 136 → z (6091 + k) = r k) (h0 : sdB r 0) (h1 : sdB r 1) (h5 : (1 ≤ r 5 ∧ r 5 ≤ 100) ∧ (0 ≤ r 6 ∧ r 6 ≤ 20) ∧ 1 ≤ r 7 ∧ r 7 ≤ 99) : OM 6091 z := by
  refine ⟨fun s hs => ?_, by rw [hb 5 (by omega)]; exact h5.1, by rw [hb 6 (by omega)]; exact h5.2.1, by rw [hb 7 (by omega)]; exact h5.2.2⟩
  have hS : sdB r s := by
    rcases (show s = 0 ∨ s = 1 by omega) with rfl | rfl
    · exact h0
    · exact h1
  obtain ⟨d, e, q1, q2, q3, q4, q5, q6, q7⟩ := hS
  rw [hb s (by omega), Nat.add_assoc 6091 2 s, hb (2 + s) (by omega)]
  refine ⟨by omega, fun p hp hl => ?_, fun q hq hl => ?_⟩
  · have b : ∀ k, k < 5 → tlo k ≤ z (6091 + 8 + 40 * s + 5 * p + k) ∧ z (6091 + 8 + 40 * s + 5 * p + k) ≤ thi k := fun k hk => by
      rw [show 6091 + 8 + 40 * s + 5 * p + k = 6091 + (8 + 40 * s + 5 * p + k) by omega, hb _ (by omega)]
      exact q4 p (by omega) k hk
    exact ⟨b 0 (by omega), b 1 (by omega), b 2 (by omega), b 3 (by omega), b 4 (by omega)⟩
  · have b : ∀ k, k < 4 → rlo k ≤ z (6091 + 88 + 24 * s + 4 * q + k) ∧ z (6091 + 88 + 24 * s + 4 * q + k) ≤ rhi k := fun k hk => by
      rw [show 6091 + 88 + 24 * s + 4 * q + k = 6091 + (88 + 24 * s + 4 * q + k) by omega, hb _ (by omega)]
      exact q7 q (by omega) k hk
    exact ⟨b 0 (by omega), b 1 (by omega), b 2 (by omega), b 3 (by omega)⟩
theorem pr_match (l : Launch) {n : Nat} {x : hm} (hI : IV n x) : hm_I l m_X9_match 9 [Vr 0] x (fun r1 x1 => hm_I l m_X10_match 8 [Vr 5723] x1 (fun r2 x2 => r1 = r2 ∧ IV (n + 1) x2)) := by
  obtain ⟨j1, j2, j3, j4, j5, j6, j7, j8, j9, j10⟩ := hI
  obtain ⟨L, hL⟩ := Int.eq_ofNat_of_zero_le j3.1.2.1
  have hL2 : x 5733 = L := by rw [← j3.1.1]; exact hL
  have hO : okTp (fun j => x (6733 + j)) L := ⟨by have := j3.1.2.2; omega, fun j hj => by
    have b := j3.2 j (by have := j3.1.2.2; omega) (by rw [hL]; omega)
    exact ⟨b.1, b.2.1⟩⟩
  have hC : tpC (fun j => x (6733 + j)) L x := ⟨hL, fun j hj => (j3.2 j (by have := j3.1.2.2; omega) (by rw [hL]; omega)).2.2⟩
  have hL7 := hO.1
  refine hr_X9_match l (Nat.le_of_ble_eq_true rfl) ?_
  simp only [hb_X9_match_0, hb_X9_match_24, hb_X9_match_46, hc_iconst, hc_lconst, hc_iload, hc_lload, hc_aload, hc_istore, hc_astore, hc_lstore, hc_iinc, hc_dup, hc_dup2, hc_pop, hc_iadd, hc_isub, hc_imul, hc_iaddw, hc_isubw, hc_imulw, hc_inegw, hc_idiv, hc_irem, hc_ineg, hc_b2, hc_b1, hc_i2l, hc_l2i, hc_ladd, hc_l2, hc_lsh, hc_lcmp, hc_if, hc_icmp, hc_jump, hc_getI, hc_getR, hc_putI, hc_putZ, hc_xald, hc_iast, hc_bast, hc_zast, hc_aald, hc_alen, hc_copy, hc_gets, hc_getsI, hc_sald, hc_ldcs, hc_sval, hc_scod, hc_slen, hc_sbald, hc_callI, hc_callL, hc_callV, hc_max, hc_min, hc_abs, hc_ireturn, hc_zreturn, hc_creturn, hc_lreturn, hc_return, hc_none, hc_switch, hv_sw, hv_get, hv_set, hv_set2, hv_mask, hv_fr, hv_noL, hv_pop, hv_pk, hv_isO, hv_isS, hv_any, hv_w, hv_cat, he_nil, he_i, he_r, he_l, hv_repl_0, hv_repl_s, if_true, if_false, and_true, true_and, and_self, Nat.zero_add, Nat.add_zero, Nat.reduceAdd, Nat.reduceLeDiff, List.length_cons, List.length_nil, Int.toNat_natCast, Bool.false_eq_true, reduceIte, Int.toNat_zero, Int.toNat_one, Int.reduceToNat, or_true, true_or, Int.reduceEq, Int.reduceLT, Int.reduceLE, Int.reduceNeg, Int.reduceAdd, Int.reduceSub, Int.reduceMul, Nat.reduceMul, Nat.reduceEqDiff, implies_true, false_implies, true_implies, not_true_eq_false, not_false_eq_true, ne_eq, or_false, false_or, and_false, false_and, or_self, Classical.not_not, Int.zero_add, Int.add_zero, lc_0, lc_22, lc_730, lc_902, lc_1074, lc_1447, lc_1824, lc_2081, lc_2135, lc_4258, lc_5723, lr_0, lt_14, ll_14, lr_2, lr_4, lr_5, lr_6, lr_7, lr_8, lt_1820, ll_1820, lr_9, lt_1822, ll_1822, lr_10, lr_11, lr_12, lr_13, lr_22, lt_30, ll_30, lr_1824, lt_1825, ll_1825, lr_2081, lt_2086, ll_2086, lr_2082, lt_2102, ll_2102, lr_2083, lt_2118, ll_2118, lr_2135, lt_2137, ll_2137, lr_4263, lt_4265, ll_4265, lr_5725, lt_5755, ll_5755, lr_5726, lt_5763, ll_5763, lr_5727, lt_5771, ll_5771, lr_5728, lt_6091, ll_6091, lr_5729, lt_6227, ll_6227, lr_5731, lt_6363, ll_6363, lr_5732, lt_6733, ll_6733, lr_5743, lt_7433, ll_7433, lr_5744, lt_7435, ll_7435, lr_5745, lt_7805, ll_7805, lr_5746, lt_7809, ll_7809, lr_5747, lt_8065, ll_8065, lr_5748, lt_8165, ll_8165, lr_5750, lt_8265, ll_8265, lr_5751, lt_8267, ll_8267, lr_5752, lt_8539, ll_8539, lr_5753, lt_9279, ll_9279, lr_731, lt_733, ll_733, lr_732, lt_899, ll_899, lr_903, lt_905, ll_905, lr_904, lt_1071, ll_1071, lr_1074, lt_1086, ll_1086, lr_1082, lt_1088, ll_1088, lr_1088, lt_1090, ll_1090, lr_1089, lt_1098, ll_1098, lr_1083, lt_1106, ll_1106, lr_1106, lt_1108, ll_1108, lr_1107, lt_1116, ll_1116, lr_1084, lt_1124, ll_1124, lr_1124, lt_1126, ll_1126, lr_1125, lt_1134, ll_1134, lr_1085, lt_1142, ll_1142, lr_1142, lt_1147, ll_1147, lr_1143, lt_1207, ll_1207, lr_1144, lt_1267, ll_1267, lr_1145, lt_1327, ll_1327, lr_1146, lt_1387, ll_1387, lr_1447, lt_1459, ll_1459, lr_1455, lt_1461, ll_1461, lr_1461, lt_1463, ll_1463, lr_1462, lt_1471, ll_1471, lr_1456, lt_1479, ll_1479, lr_1479, lt_1481, ll_1481, lr_1480, lt_1489, ll_1489, lr_1457, lt_1497, ll_1497, lr_1497, lt_1499, ll_1499, lr_1498, lt_1507, ll_1507, lr_1458, lt_1515, ll_1515, lr_1515, lt_1520, ll_1520, lr_1516, lt_1580, ll_1580, lr_1517, lt_1640, ll_1640, lr_1518, lt_1700, ll_1700, lr_1519, lt_1760, ll_1760]
  refine sp_readText l hO hC (fun p' r' e y y1 y2 y3 => ⟨fun _ => ?_, fun c => absurd c (by decide)⟩) (fun f q e y y1 y2 y3 => ⟨fun c => absurd rfl c, fun _ => ?_⟩)
  · -- a match
    have ok := P_text_ok e (Nat.zero_le _)
    obtain ⟨s0, s1, s5⟩ := ok
    have Y : ∀ a, a ≠ 23 → hh_upd y 23 0 a = y a := fun a ha => hh_upd_ne ha
    have Y23 : hh_upd y 23 0 23 = 0 := hh_upd_same _ _ _
    generalize hh_upd y 23 0 = w at Y Y23 ⊢
    refine sp_matchBecome l (d := 730) (s := 902) (Or.inl rfl) (Or.inr (Or.inl rfl)) (Or.inl (by omega)) (Or.inr (by rw [Y _ (by omega)]; exact y1)) (fun u u1 u2 u3 => ?_)
    have u730 : u 730 = 1 := by rw [u1, Y _ (by omega)]; exact y1
    have uM : ∀ k, useM k → u (730 + k) = y (902 + k) := fun k hk => by rw [u2 k hk, Y _ (by omega)]
    refine sp_layGround l (t := 1074) (Or.inl rfl) (fun v v1 v2 v3 v4 => ?_)
    have vM : ∀ k, useM k → v (730 + k) = y (902 + k) := fun k hk => by rw [v4 _ (by unfold useM at hk; omega) (by unfold useM at hk; omega) (by unfold useM at hk; omega)]; exact uM k hk
    have vX : ∀ a, a ≠ 23 → ¬ (24 ≤ a ∧ a < 30) → ¬ (730 ≤ a ∧ a < 1074) → a ≠ 1075 → a ≠ 1086 → a ≠ 1087 → v a = x a := fun a q1 q2 q3 q4 q5 q6 => by rw [v4 a q4 q5 q6, u3 a (by omega), Y a q1, y3 a q2 (by omega)]
    have c0 : v 735 = r' 0 := by
      have := vM 5 (by unfold useM; omega)
      rw [show v 735 = v (730 + 5) from rfl, this]
      exact (y2.1 0 (by omega)).1
    have c1 : v 817 = r' 1 := by
      have := vM 87 (by unfold useM; omega)
      rw [show v 817 = v (730 + 87) from rfl, this]
      exact (y2.1 1 (by omega)).1
    have g5 : u 899 = r' 5 := by
      have := uM 169 (by unfold useM; omega)
      rw [show u 899 = u (730 + 169) from rfl, this]
      exact y2.2 0 (by omega)
    have b0 : 1 ≤ r' 0 ∧ r' 0 ≤ 8 := by obtain ⟨d, _, q1, q2, q3, -⟩ := s0; omega
    have b1 : 1 ≤ r' 1 ∧ r' 1 ≤ 8 := by obtain ⟨d, _, q1, q2, q3, -⟩ := s1; omega
    refine hr_X3_pullers l (Nat.le_of_ble_eq_true rfl) ?_
    simp only [hb_X3_pullers_0, hc_iconst, hc_lconst, hc_iload, hc_lload, hc_aload, hc_istore, hc_astore, hc_lstore, hc_iinc, hc_dup, hc_dup2, hc_pop, hc_iadd, hc_isub, hc_imul, hc_iaddw, hc_isubw, hc_imulw, hc_inegw, hc_idiv, hc_irem, hc_ineg, hc_b2, hc_b1, hc_i2l, hc_l2i, hc_ladd, hc_l2, hc_lsh, hc_lcmp, hc_if, hc_icmp, hc_jump, hc_getI, hc_getR, hc_putI, hc_putZ, hc_xald, hc_iast, hc_bast, hc_zast, hc_aald, hc_alen, hc_copy, hc_gets, hc_getsI, hc_sald, hc_ldcs, hc_sval, hc_scod, hc_slen, hc_sbald, hc_callI, hc_callL, hc_callV, hc_max, hc_min, hc_abs, hc_ireturn, hc_zreturn, hc_creturn, hc_lreturn, hc_return, hc_none, hc_switch, hv_sw, hv_get, hv_set, hv_set2, hv_mask, hv_fr, hv_noL, hv_pop, hv_pk, hv_isO, hv_isS, hv_any, hv_w, hv_cat, he_nil, he_i, he_r, he_l, hv_repl_0, hv_repl_s, if_true, if_false, and_true, true_and, and_self, Nat.zero_add, Nat.add_zero, Nat.reduceAdd, Nat.reduceLeDiff, List.length_cons, List.length_nil, Int.toNat_natCast, Bool.false_eq_true, reduceIte, Int.toNat_zero, Int.toNat_one, Int.reduceToNat, or_true, true_or, Int.reduceEq, Int.reduceLT, Int.reduceLE, Int.reduceNeg, Int.reduceAdd, Int.reduceSub, Int.reduceMul, Nat.reduceMul, Nat.reduceEqDiff, implies_true, false_implies, true_implies, not_true_eq_false, not_false_eq_true, ne_eq, or_false, false_or, and_false, false_and, or_self, Classical.not_not, Int.zero_add, Int.add_zero, lc_0, lc_22, lc_730, lc_902, lc_1074, lc_1447, lc_1824, lc_2081, lc_2135, lc_4258, lc_5723, lr_0, lt_14, ll_14, lr_2, lr_4, lr_5, lr_6, lr_7, lr_8, lt_1820, ll_1820, lr_9, lt_1822, ll_1822, lr_10, lr_11, lr_12, lr_13, lr_22, lt_30, ll_30, lr_1824, lt_1825, ll_1825, lr_2081, lt_2086, ll_2086, lr_2082, lt_2102, ll_2102, lr_2083, lt_2118, ll_2118, lr_2135, lt_2137, ll_2137, lr_4263, lt_4265, ll_4265, lr_5725, lt_5755, ll_5755, lr_5726, lt_5763, ll_5763, lr_5727, lt_5771, ll_5771, lr_5728, lt_6091, ll_6091, lr_5729, lt_6227, ll_6227, lr_5731, lt_6363, ll_6363, lr_5732, lt_6733, ll_6733, lr_5743, lt_7433, ll_7433, lr_5744, lt_7435, ll_7435, lr_5745, lt_7805, ll_7805, lr_5746, lt_7809, ll_7809, lr_5747, lt_8065, ll_8065, lr_5748, lt_8165, ll_8165, lr_5750, lt_8265, ll_8265, lr_5751, lt_8267, ll_8267, lr_5752, lt_8539, ll_8539, lr_5753, lt_9279, ll_9279, lr_731, lt_733, ll_733, lr_732, lt_899, ll_899, lr_903, lt_905, ll_905, lr_904, lt_1071, ll_1071, lr_1074, lt_1086, ll_1086, lr_1082, lt_1088, ll_1088, lr_1088, lt_1090, ll_1090, lr_1089, lt_1098, ll_1098, lr_1083, lt_1106, ll_1106, lr_1106, lt_1108, ll_1108, lr_1107, lt_1116, ll_1116, lr_1084, lt_1124, ll_1124, lr_1124, lt_1126, ll_1126, lr_1125, lt_1134, ll_1134, lr_1085, lt_1142, ll_1142, lr_1142, lt_1147, ll_1147, lr_1143, lt_1207, ll_1207, lr_1144, lt_1267, ll_1267, lr_1145, lt_1327, ll_1327, lr_1146, lt_1387, ll_1387, lr_1447, lt_1459, ll_1459, lr_1455, lt_1461, ll_1461, lr_1461, lt_1463, ll_1463, lr_1462, lt_1471, ll_1471, lr_1456, lt_1479, ll_1479, lr_1479, lt_1481, ll_1481, lr_1480, lt_1489, ll_1489, lr_1457, lt_1497, ll_1497, lr_1497, lt_1499, ll_1499, lr_1498, lt_1507, ll_1507, lr_1458, lt_1515, ll_1515, lr_1515, lt_1520, ll_1520, lr_1516, lt_1580, ll_1580, lr_1517, lt_1640, ll_1640, lr_1518, lt_1700, ll_1700, lr_1519, lt_1760, ll_1760]
    have rf0 : hh_rf 733 = 735 := lr_m733 (show 0 < 2 by omega)
    have rf1 : hh_rf 734 = 817 := lr_m733 (show 1 < 2 by omega)
    have cl0 : hh_cls 735 = 7 := sd_cls (is_side730 (show 0 < 2 by omega))
    have cl1 : hh_cls 817 = 7 := sd_cls (is_side730 (show 1 < 2 by omega))
    rw [rf0, rf1, c0, c1]
    have go : hm_I l m_X10_match 8 [Vr 5723] v (fun r2 x2 => r' 0 + r' 1 = r2 ∧ IV (n + 1) x2) := by
      refine mo_match l (T := fun j => x (6733 + j)) (L := L) (by rw [vX _ (by omega) (by omega) (by omega) (by omega) (by omega) (by omega)]; exact hL2) hO (fun j hj => vX _ (by omega) (by omega) (by omega) (by omega) (by omega) (by omega)) (fun p2 r2 e2 z z1 z2 z3 z4 z5 z6 => ?_) (fun f q e2 => absurd (e.symm.trans e2) (by intro h; cases h))
      have er : r2 = r' := by
        have := e.symm.trans e2
        cases this; rfl
      subst er
      refine ⟨rfl, ?_⟩
      have F : ∀ a, a ≠ 23 → ¬ (24 ≤ a ∧ a < 30) → ¬ (730 ≤ a ∧ a < 1074) → a ≠ 1075 → a ≠ 1086 → a ≠ 1087 → a ≠ 5723 → a ≠ 5730 → a ≠ 5733 → ¬ (5735 ≤ a ∧ a < 5743) → ¬ (6091 ≤ a ∧ a < 6733) → z a = x a := fun a q1 q2 q3 q4 q5 q6 q7 q8 q9 q10 q11 => by rw [z6 a q7 q8 q9 q10 q11, vX a q1 q2 q3 q4 q5 q6]
      have F : ∀ a, (a ≠ 23 ∧ ¬ (24 ≤ a ∧ a < 30) ∧ ¬ (730 ≤ a ∧ a < 1074) ∧ a ≠ 1075 ∧ a ≠ 1086 ∧ a ≠ 1087) ∧ a ≠ 5723 ∧ a ≠ 5730 ∧ a ≠ 5733 ∧ ¬ (5735 ≤ a ∧ a < 5743) ∧ ¬ (6091 ≤ a ∧ a < 6733) → z a = x a := fun a ⟨⟨q1, q2, q3, q4, q5, q6⟩, q7, q8, q9, q10, q11⟩ => F a q1 q2 q3 q4 q5 q6 q7 q8 q9 q10 q11
      have Z : ∀ a, a ≠ 5723 → a ≠ 5730 → a ≠ 5733 → ¬ (5735 ≤ a ∧ a < 5743) → ¬ (6091 ≤ a ∧ a < 6733) → z a = v a := z6
      have z23 : z 23 = 0 := by rw [Z _ (by omega) (by omega) (by omega) (by omega) (by omega), v4 _ (by omega) (by omega) (by omega), u3 _ (by omega)]; exact Y23
      have oM : OM 6091 z := sdB_OM z1 s0 s1 s5
      have rM : RM 730 6091 z := RMr_RM y2 (fun k hk => by rw [Z _ (by unfold useM at hk; omega) (by unfold useM at hk; omega) (by unfold useM at hk; omega) (by unfold useM at hk; omega) (by unfold useM at hk; omega)]; exact vM k hk) z1
      have z730 : z 730 = 1 := by rw [Z _ (by omega) (by omega) (by omega) (by omega) (by omega), v4 _ (by omega) (by omega) (by omega)]; exact u730
      have J3 : I3 z := ⟨⟨by rw [z23, z3], by rw [z23]; decide, by rw [z23]; decide⟩, fun j _ hl => by rw [z23] at hl; omega⟩
      have J5 : I5 z := ⟨by rw [z730, z2], Or.inr ⟨z730, oM⟩, rM⟩
      have z1075 : z 1075 = 0 := by rw [Z _ (by omega) (by omega) (by omega) (by omega) (by omega)]; exact v1
      have z65 : z 6365 = 0 := z5 _ (by omega) (by omega)
      have g86 : z 1086 = r2 5 := by rw [Z _ (by omega) (by omega) (by omega) (by omega) (by omega), v2]; exact g5
      have g87 : z 1087 = r2 5 := by rw [Z _ (by omega) (by omega) (by omega) (by omega) (by omega), v3]; exact g5
      have J6 : I6 (n + 1) z := by
        refine ⟨⟨z1075.trans z65.symm, ⟨g86.trans z4.1.symm, g87.trans z4.2.symm⟩, fun c => absurd (z65.symm.trans c) (by decide)⟩, ⟨Or.inl z65, fun _ k hk hk2 => z5 _ (by omega) (by omega), fun c => absurd (z65.symm.trans c) (by decide), fun _ => ?_⟩, fun c => absurd (z2.symm.trans c) (by decide)⟩
        have e4 : z (6363 + 1) = r2 5 := z4.2
        rw [z4.1, e4]
        exact ⟨s5.1, s5.1⟩
      have J7 : I7 (n + 1) z := by
        intro k hk
        obtain ⟨h1, h2⟩ := j7 k hk
        rw [F (8265 + k) (by omega), F (4633 + 545 * k) (by omega)]
        refine ⟨h1, ?_⟩
        rcases h2 with a | ⟨a, g1, g2, g3, g4⟩
        · exact Or.inl a
        · exact Or.inr ⟨⟨a.1, z2⟩, RM_move (fun k hk => F _ (by omega)) (fun k hk => F _ (by omega)) g1, OM_move (fun k hk => F _ (by omega)) g2, RT_move (fun k hk => F _ (by omega)) (fun k hk => F _ (by omega)) (fun k hk => F _ (by omega)) g3, OT_move (by omega) (fun k hk => F _ (by omega)) (fun k hk => F _ (by omega)) g4⟩
      exact ⟨(I1_congr (fun a ha => F a (by omega)) j1), (I2_congr (fun a ha => F a (by omega)) j2), J3, (I4_congr (fun a ha => F a (by omega)) j4), J5, J6, J7, (I8_congr (fun a ha => F a (by omega)) j8), (I9_congr (fun a ha => F a (by omega)) j9), (I10_congr (fun a ha => F a (by omega)) j10)⟩
    (repeat' (with_reducible refine And.intro ?_ ?_)) <;> first | exact go | exact cl0 | exact cl1 | exact trivial | omega | exact ⟨by omega, by omega⟩
  · -- a fault
    have hq : q ≤ L := P_text_q (Nat.zero_le _) e
    have e28 : hh_upd y 23 0 28 = f := by rw [hh_upd_ne (by omega)]; exact y1
    have e29 : hh_upd (hh_upd y 23 0) 3 f 29 = q := by rw [hh_upd_ne (by omega), hh_upd_ne (by omega)]; exact y2
    rw [e28, e29]
    have X : ∀ a, a ≠ 3 → a ≠ 23 → ¬ (24 ≤ a ∧ a < 30) → ¬ (902 ≤ a ∧ a < 1074) → hh_upd (hh_upd y 23 0) 3 f a = x a := fun a q1 q2 q3 q4 => by rw [hh_upd_ne q1, hh_upd_ne q2]; exact y3 a q3 q4
    have X3 : hh_upd (hh_upd y 23 0) 3 f 3 = f := hh_upd_same _ _ _
    have X23 : hh_upd (hh_upd y 23 0) 3 f 23 = 0 := by rw [hh_upd_ne (by omega), hh_upd_same]
    generalize hh_upd (hh_upd y 23 0) 3 f = w at X X3 X23 ⊢
    have go : hm_I l m_X10_match 8 [Vr 5723] w (fun r2 x2 => -1000100 - (q : Int) = r2 ∧ IV (n + 1) x2) := by
      refine mo_match l (T := fun j => x (6733 + j)) (L := L) (by rw [X _ (by omega) (by omega) (by omega) (by omega)]; exact hL2) hO (fun j hj => X _ (by omega) (by omega) (by omega) (by omega)) (fun p2 r2 e2 => absurd (e.symm.trans e2) (by intro h; cases h)) (fun f2 q2 e2 z z1 z2 z3 => ?_)
      have er : (f, q) = (f2, q2) := by
        have := e.symm.trans e2
        cases this; rfl
      cases er
      refine ⟨rfl, ?_⟩
      have F : ∀ a, (a ≠ 3 ∧ a ≠ 23 ∧ ¬ (24 ≤ a ∧ a < 30) ∧ ¬ (902 ≤ a ∧ a < 1074)) ∧ a ≠ 5723 ∧ a ≠ 5733 ∧ ¬ (5734 ≤ a ∧ a < 5743) ∧ ¬ (6227 ≤ a ∧ a < 6363) → z a = x a := fun a ⟨⟨q1, q2, q3, q4⟩, q5, q6, q7, q8⟩ => by rw [z3 a q5 q6 q7 q8, X a q1 q2 q3 q4]
      have z23 : z 23 = 0 := by rw [z3 _ (by omega) (by omega) (by omega) (by omega)]; exact X23
      have J3 : I3 z := ⟨⟨by rw [z23, z2], by rw [z23]; decide, by rw [z23]; decide⟩, fun j _ hl => by rw [z23] at hl; omega⟩
      have J4 : I4 z := by unfold I4; rw [z1, z3 _ (by omega) (by omega) (by omega) (by omega)]; exact X3
      exact ⟨(I1_congr (fun a ha => F a (by omega)) j1), (I2_congr (fun a ha => F a (by omega)) j2), J3, J4, (I5_congr (fun a ha => F a (by omega)) j5), (I6_congr (by omega) (fun a ha => F a (by omega)) j6), (I7_congr (by omega) (fun a ha => F a (by omega)) j7), (I8_congr (fun a ha => F a (by omega)) j8), (I9_congr (fun a ha => F a (by omega)) j9), (I10_congr (fun a ha => F a (by omega)) j10)⟩
    (repeat' (with_reducible refine And.intro ?_ ?_)) <;> first | exact go | exact trivial | omega | exact ⟨by omega, by omega⟩
