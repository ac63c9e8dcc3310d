/-! a tenth, the reference -/
theorem sp_tenth (l : Launch) {y : hm} {o0 o1 : Int} (h0 : 0 ≤ o0 ∧ o0 ≤ 3) (h1 : 0 ≤ o1 ∧ o1 ≤ 3) {N : Int} (hO : OM 6091 y) (hT : OT 6091 6363 N y) (hN : N ≤ 100000) (hb : y 6365 = 1) {Q : hm → Prop} (h : ∀ v : hm, (∀ k, k < 370 → v (6363 + k) = tenF y o0 o1 k) → (∀ a, ¬ (6363 ≤ a ∧ a < 6733) → a ≠ 7433 → a ≠ 7434 → v a = y a) → Q v) : hm_V l m_X10_tenth 3 [Vr 5723, Vi o0, Vi o1] y Q := by
  have hg := OT.grip hO hT
  have c0b := cnt_b hO (show 0 < 2 by omega)
  have c1b := cnt_b hO (show 1 < 2 by omega)
  have f0b := frc_b hO hT hb h0 h1 (show 0 < 2 by omega)
  have f1b := frc_b hO hT hb h0 h1 (show 1 < 2 by omega)
  obtain ⟨bch, bth, bgo, -, -, bke, -⟩ := (hT.2.2.1 hb).1
  have bch : y 6366 = 0 ∨ y 6366 = 1 := bch
  have bth : -102 ≤ y 6367 ∧ y 6367 ≤ 102 := bth
  have bgo : 0 ≤ y 6368 ∧ y 6368 ≤ N := bgo
  have bke : y 6372 = min (y 6368) 60 := bke
  obtain ⟨g, hgn⟩ := Int.eq_ofNat_of_zero_le bgo.1
  have bwe : 0 ≤ y 6097 ∧ y 6097 ≤ 20 := hO.2.2.1
  have bfar : 1 ≤ y 6098 ∧ y 6098 ≤ 99 := hO.2.2.2
  refine hr_X10_tenth l (Nat.le_of_ble_eq_true rfl) ?_
  intro At h3 h52 h63 h162
  simp only [hb_X10_tenth_0, hc_iconst, hc_lconst, hc_iload, hc_lload, hc_aload, hc_istore, hc_astore, hc_lstore, hc_iinc, hc_dup, hc_dup2, hc_pop, hc_iadd, hc_isub, hc_imul, hc_iaddw, hc_isubw, hc_imulw, hc_inegw, hc_idiv, hc_irem, hc_ineg, hc_b2, hc_b1, hc_i2l, hc_l2i, hc_ladd, hc_l2, hc_lsh, hc_lcmp, hc_if, hc_icmp, hc_jump, hc_getI, hc_getR, hc_putI, hc_putZ, hc_xald, hc_iast, hc_bast, hc_zast, hc_aald, hc_alen, hc_copy, hc_gets, hc_getsI, hc_sald, hc_ldcs, hc_sval, hc_scod, hc_slen, hc_sbald, hc_callI, hc_callL, hc_callV, hc_max, hc_min, hc_abs, hc_ireturn, hc_zreturn, hc_creturn, hc_lreturn, hc_return, hc_none, hc_switch, hv_sw, hv_get, hv_set, hv_set2, hv_mask, hv_fr, hv_noL, hv_pop, hv_pk, hv_isO, hv_isS, hv_any, hv_w, hv_cat, he_nil, he_i, he_r, he_l, hv_repl_0, hv_repl_s, if_true, if_false, and_true, true_and, and_self, Nat.zero_add, Nat.add_zero, Nat.reduceAdd, Nat.reduceLeDiff, List.length_cons, List.length_nil, Int.toNat_natCast, Bool.false_eq_true, reduceIte, Int.toNat_zero, Int.toNat_one, Int.reduceToNat, or_true, true_or, Int.reduceEq, Int.reduceLT, Int.reduceLE, Int.reduceNeg, Int.reduceAdd, Int.reduceSub, Int.reduceMul, Nat.reduceMul, Nat.reduceEqDiff, implies_true, false_implies, true_implies, not_true_eq_false, not_false_eq_true, ne_eq, or_false, false_or, and_false, false_and, or_self, Classical.not_not, Int.zero_add, Int.add_zero, lc_0, lc_22, lc_730, lc_902, lc_1074, lc_1447, lc_1824, lc_2081, lc_2135, lc_4258, lc_5723, lr_0, lt_14, ll_14, lr_2, lr_4, lr_5, lr_6, lr_7, lr_8, lt_1820, ll_1820, lr_9, lt_1822, ll_1822, lr_10, lr_11, lr_12, lr_13, lr_22, lt_30, ll_30, lr_1824, lt_1825, ll_1825, lr_2081, lt_2086, ll_2086, lr_2082, lt_2102, ll_2102, lr_2083, lt_2118, ll_2118, lr_2135, lt_2137, ll_2137, lr_4263, lt_4265, ll_4265, lr_5725, lt_5755, ll_5755, lr_5726, lt_5763, ll_5763, lr_5727, lt_5771, ll_5771, lr_5728, lt_6091, ll_6091, lr_5729, lt_6227, ll_6227, lr_5731, lt_6363, ll_6363, lr_5732, lt_6733, ll_6733, lr_5743, lt_7433, ll_7433, lr_5744, lt_7435, ll_7435, lr_5745, lt_7805, ll_7805, lr_5746, lt_7809, ll_7809, lr_5747, lt_8065, ll_8065, lr_5748, lt_8165, ll_8165, lr_5750, lt_8265, ll_8265, lr_5751, lt_8267, ll_8267, lr_5752, lt_8539, ll_8539, lr_5753, lt_9279, ll_9279, lr_731, lt_733, ll_733, lr_732, lt_899, ll_899, lr_903, lt_905, ll_905, lr_904, lt_1071, ll_1071, lr_1074, lt_1086, ll_1086, lr_1082, lt_1088, ll_1088, lr_1088, lt_1090, ll_1090, lr_1089, lt_1098, ll_1098, lr_1083, lt_1106, ll_1106, lr_1106, lt_1108, ll_1108, lr_1107, lt_1116, ll_1116, lr_1084, lt_1124, ll_1124, lr_1124, lt_1126, ll_1126, lr_1125, lt_1134, ll_1134, lr_1085, lt_1142, ll_1142, lr_1142, lt_1147, ll_1147, lr_1143, lt_1207, ll_1207, lr_1144, lt_1267, ll_1267, lr_1145, lt_1327, ll_1327, lr_1146, lt_1387, ll_1387, lr_1447, lt_1459, ll_1459, lr_1455, lt_1461, ll_1461, lr_1461, lt_1463, ll_1463, lr_1462, lt_1471, ll_1471, lr_1456, lt_1479, ll_1479, lr_1479, lt_1481, ll_1481, lr_1480, lt_1489, ll_1489, lr_1457, lt_1497, ll_1497, lr_1497, lt_1499, ll_1499, lr_1498, lt_1507, ll_1507, lr_1458, lt_1515, ll_1515, lr_1515, lt_1520, ll_1520, lr_1516, lt_1580, ll_1580, lr_1517, lt_1640, ll_1640, lr_1518, lt_1700, ll_1700, lr_1519, lt_1760, ll_1760]
  refine tn_shift l h3 (fun v1 s1 s2 s3 s4 => ?_)
  refine tn_half l h52 h63 (z := y) (o := o0) (o2 := o1) (g := g) (s := 0) (c := cnt y 0) (by omega) c0b.1.2 c0b.2 (okP2_of hO hT hb h0 (by omega)) (fun a q1 q2 => s4 a (by omega)) (fun lag hl => ?_) s2 (fun p hp => s4 _ (by omega)) (by rw [s4 _ (by omega)]; exact hgn) (by rw [s4 _ (by omega)]; exact bch) (fun e he => by rw [s4 _ (by omega)]; exact hg e he) (fun e0 v2 he0 hes0 p2 g2 f2 k2 => ?_)
  · unfold ordz
    by_cases c : lag = 0
    · rw [if_pos c, c]; exact s1
    · rw [if_neg c]
      have := s3 (2 * lag) (by omega) (by omega)
      rw [show 6363 + (58 + 2 * lag + 0) = 6421 + 2 * lag by omega, this]
      congr 1; omega
  have V2 : ∀ a, a ≠ 6370 → a ≠ 6371 → a ≠ 7433 → ¬ (6373 ≤ a ∧ a < 6373 + cnt y 0) → ¬ (6389 ≤ a ∧ a < 6389 + cnt y 0) → ¬ (6405 ≤ a ∧ a < 6405 + cnt y 0) → ¬ (6421 ≤ a ∧ a < 6433) → v2 a = y a := fun a q1 q2 q3 q4 q5 q6 q7 => by rw [k2 a q1 q2 (by omega) (by omega) (by omega) (by omega)]; exact s4 a q7
  have V2t : ∀ a, 6421 ≤ a → a < 6433 → v2 a = v1 a := fun a q1 q2 => k2 a (by omega) (by omega) (by omega) (by omega) (by omega) (by omega)
  refine tn_half l h52 h63 (z := y) (o := o1) (o2 := o0) (g := g) (s := 1) (c := cnt y 1) (by omega) c1b.1.2 c1b.2 (okP2_of hO hT hb h1 (by omega)) (fun a q1 q2 => V2 a (by omega) (by omega) (by omega) (by omega) (by omega) (by omega) (by omega)) (fun lag hl => ?_) (by show v2 6421 = o0; rw [V2t _ (by omega) (by omega)]; exact s1) (fun p hp => V2 _ (by omega) (by omega) (by omega) (by omega) (by omega) (by omega) (by omega)) (by rw [V2 _ (by omega) (by omega) (by omega) (by omega) (by omega) (by omega) (by omega)]; exact hgn) (by rw [V2 _ (by omega) (by omega) (by omega) (by omega) (by omega) (by omega) (by omega)]; exact bch) (fun e he => by rw [V2 _ (by omega) (by omega) (by omega) (by omega) (by omega) (by omega) (by omega)]; exact hg e he) (fun e1 v3 he1 hes1 p3 g3 f3 k3 => ?_)
  · unfold ordz
    rw [V2t _ (by omega) (by omega)]
    by_cases c : lag = 0
    · rw [if_pos c, c]; exact s2
    · rw [if_neg c]
      have := s3 (2 * lag + 1) (by omega) (by omega)
      rw [show 6363 + (58 + 2 * lag + 1) = 6421 + (2 * lag + 1) by omega, this]
      congr 1; omega
  rw [s4 6366 (by omega)] at hes0
  rw [V2 6366 (by omega) (by omega) (by omega) (by omega) (by omega) (by omega) (by omega)] at hes1
  have E0 := eE_of bch (show 0 < 2 by omega) he0 hes0
  have E1 := eE_of bch (show 1 < 2 by omega) he1 hes1
  have V3 : ∀ a, a ≠ 6370 → a ≠ 6371 → a ≠ 7433 → a ≠ 7434 → ¬ (6373 ≤ a ∧ a < 6373 + cnt y 0) → ¬ (6389 ≤ a ∧ a < 6389 + cnt y 0) → ¬ (6405 ≤ a ∧ a < 6405 + cnt y 0) → ¬ (6381 ≤ a ∧ a < 6381 + cnt y 1) → ¬ (6397 ≤ a ∧ a < 6397 + cnt y 1) → ¬ (6413 ≤ a ∧ a < 6413 + cnt y 1) → ¬ (6421 ≤ a ∧ a < 6433) → v3 a = y a := fun a q1 q2 q3 q3' q4 q5 q6 r4 r5 r6 q7 => by rw [k3 a q1 q2 (by omega) (by omega) (by omega) (by omega)]; exact V2 a q1 q2 q3 q4 q5 q6 q7
  have V3t : ∀ a, 6421 ≤ a → a < 6433 → v3 a = v1 a := fun a q1 q2 => by rw [k3 a (by omega) (by omega) (by omega) (by omega) (by omega) (by omega)]; exact V2t a q1 q2
  have F0 : v3 7433 = frc y o0 o1 0 := by
    rw [k3 7433 (by omega) (by omega) (by omega) (by omega) (by omega) (by omega)]
    have f2 : v2 7433 = _ := f2
    rw [f2, s4 _ (by omega), E0]
    rfl
  have F1 : v3 7434 = frc y o0 o1 1 := by
    have f3 : v3 7434 = _ := f3
    rw [f3, V2 _ (by omega) (by omega) (by omega) (by omega) (by omega) (by omega) (by omega), E1]
    rfl
  have G : (v3 6370, v3 6371) = gvF y o0 o1 := by
    rw [g3, g2, s4 6370 (by omega), s4 6371 (by omega)]
    unfold gvF
    rw [hgn]
  have hm0 : At 162 [some (Vr 5723), none, none, some (Vi 0), none, none] [] v3 := by
    have v3f : ∀ a, 6363 ≤ a → a < 6370 → v3 a = y a := fun a q1 q2 => V3 a (by omega) (by omega) (by omega) (by omega) (by omega) (by omega) (by omega) (by omega) (by omega) (by omega) (by omega)
    have v3m : ∀ a, 6091 ≤ a → a < 6227 → v3 a = y a := fun a q1 q2 => V3 a (by omega) (by omega) (by omega) (by omega) (by omega) (by omega) (by omega) (by omega) (by omega) (by omega) (by omega)
    refine tn_wear l h162 (s := 0) (by omega) (by rw [v3f _ (by omega) (by omega)]; exact bch) (fun e he => by rw [v3f _ (by omega) (by omega)]; exact hg e he) (by rw [v3m _ (by omega) (by omega)]; exact bwe) (fun e4 v4 he4 hes4 w4 k4 => ?_)
    rw [v3f 6366 (by omega) (by omega)] at hes4
    have E4 := eE_of bch (show 0 < 2 by omega) he4 hes4
    rw [v3f _ (by omega) (by omega), v3m _ (by omega) (by omega)] at w4
    have w4 : v4 (6363 + e4) = f_wear (y (6363 + e4)) (y 6097) (v3 6421) := w4
    rw [V3t _ (by omega) (by omega), s1] at w4
    have hg4 : 1 ≤ v4 (6363 + e4) ∧ v4 (6363 + e4) ≤ 100 := by
      have := hg e4 he4
      rw [w4]; unfold f_wear; split <;> omega
    refine tn_wear l h162 (s := 1) (by omega) (by rw [k4 _ (by omega), v3f _ (by omega) (by omega)]; exact bch) (fun e he => ?_) (by rw [k4 _ (by omega), v3m _ (by omega) (by omega)]; exact bwe) (fun e5 v5 he5 hes5 w5 k5 => ?_)
    · by_cases c : e = e4
      · subst c; exact hg4
      · rw [k4 _ (by omega), v3f _ (by omega) (by omega)]; exact hg e he
    rw [k4 6366 (by omega), v3f 6366 (by omega) (by omega)] at hes5
    have E5 := eE_of bch (show 1 < 2 by omega) he5 hes5
    have ne45 : e5 ≠ e4 := fun c => eE_ne y (by rw [← E4, ← E5, c])
    rw [k4 (6363 + e5) (by omega), v3f _ (by omega) (by omega), k4 6097 (by omega), v3m _ (by omega) (by omega)] at w5
    have w5 : v5 (6363 + e5) = f_wear (y (6363 + e5)) (y 6097) (v4 6422) := w5
    rw [k4 6422 (by omega), V3t _ (by omega) (by omega), s2] at w5
    have V5 : ∀ a, 6365 ≤ a → v5 a = v3 a := fun a q => by rw [k5 a (by omega), k4 a (by omega)]
    have V5' : ∀ a, a < 6363 → v5 a = v3 a := fun a q => by rw [k5 a (by omega), k4 a (by omega)]
    have V5g : ∀ e, e < 2 → v5 (6363 + e) = f_wear (y (6363 + e)) (y 6097) (oS o0 o1 (eE y e)) := fun e he => by
      rcases (show e = e4 ∨ e = e5 by omega) with c | c
      · rw [k5 _ (by omega), c, w4, E4, eE_eE y (by omega)]; rfl
      · rw [c, w5, E5, eE_eE y (by omega)]; rfl
    have key : ∀ s : Nat, s = 2 → At 162 [some (Vr 5723), none, none, some (Vi s), none, none] [] v5 := by
      intro s hs
      refine h162 _ _ _ ?_
      simp only [hb_X10_tenth_162, hc_iconst, hc_lconst, hc_iload, hc_lload, hc_aload, hc_istore, hc_astore, hc_lstore, hc_iinc, hc_dup, hc_dup2, hc_pop, hc_iadd, hc_isub, hc_imul, hc_iaddw, hc_isubw, hc_imulw, hc_inegw, hc_idiv, hc_irem, hc_ineg, hc_b2, hc_b1, hc_i2l, hc_l2i, hc_ladd, hc_l2, hc_lsh, hc_lcmp, hc_if, hc_icmp, hc_jump, hc_getI, hc_getR, hc_putI, hc_putZ, hc_xald, hc_iast, hc_bast, hc_zast, hc_aald, hc_alen, hc_copy, hc_gets, hc_getsI, hc_sald, hc_ldcs, hc_sval, hc_scod, hc_slen, hc_sbald, hc_callI, hc_callL, hc_callV, hc_max, hc_min, hc_abs, hc_ireturn, hc_zreturn, hc_creturn, hc_lreturn, hc_return, hc_none, hc_switch, hv_sw, hv_get, hv_set, hv_set2, hv_mask, hv_fr, hv_noL, hv_pop, hv_pk, hv_isO, hv_isS, hv_any, hv_w, hv_cat, he_nil, he_i, he_r, he_l, hv_repl_0, hv_repl_s, if_true, if_false, and_true, true_and, and_self, Nat.zero_add, Nat.add_zero, Nat.reduceAdd, Nat.reduceLeDiff, List.length_cons, List.length_nil, Int.toNat_natCast, Bool.false_eq_true, reduceIte, Int.toNat_zero, Int.toNat_one, Int.reduceToNat, or_true, true_or, Int.reduceEq, Int.reduceLT, Int.reduceLE, Int.reduceNeg, Int.reduceAdd, Int.reduceSub, Int.reduceMul, Nat.reduceMul, Nat.reduceEqDiff, implies_true, false_implies, true_implies, not_true_eq_false, not_false_eq_true, ne_eq, or_false, false_or, and_false, false_and, or_self, Classical.not_not, Int.zero_add, Int.add_zero, lc_0, lc_22, lc_730, lc_902, lc_1074, lc_1447, lc_1824, lc_2081, lc_2135, lc_4258, lc_5723, lr_0, lt_14, ll_14, lr_2, lr_4, lr_5, lr_6, lr_7, lr_8, lt_1820, ll_1820, lr_9, lt_1822, ll_1822, lr_10, lr_11, lr_12, lr_13, lr_22, lt_30, ll_30, lr_1824, lt_1825, ll_1825, lr_2081, lt_2086, ll_2086, lr_2082, lt_2102, ll_2102, lr_2083, lt_2118, ll_2118, lr_2135, lt_2137, ll_2137, lr_4263, lt_4265, ll_4265, lr_5725, lt_5755, ll_5755, lr_5726, lt_5763, ll_5763, lr_5727, lt_5771, ll_5771, lr_5728, lt_6091, ll_6091, lr_5729, lt_6227, ll_6227, lr_5731, lt_6363, ll_6363, lr_5732, lt_6733, ll_6733, lr_5743, lt_7433, ll_7433, lr_5744, lt_7435, ll_7435, lr_5745, lt_7805, ll_7805, lr_5746, lt_7809, ll_7809, lr_5747, lt_8065, ll_8065, lr_5748, lt_8165, ll_8165, lr_5750, lt_8265, ll_8265, lr_5751, lt_8267, ll_8267, lr_5752, lt_8539, ll_8539, lr_5753, lt_9279, ll_9279, lr_731, lt_733, ll_733, lr_732, lt_899, ll_899, lr_903, lt_905, ll_905, lr_904, lt_1071, ll_1071, lr_1074, lt_1086, ll_1086, lr_1082, lt_1088, ll_1088, lr_1088, lt_1090, ll_1090, lr_1089, lt_1098, ll_1098, lr_1083, lt_1106, ll_1106, lr_1106, lt_1108, ll_1108, lr_1107, lt_1116, ll_1116, lr_1084, lt_1124, ll_1124, lr_1124, lt_1126, ll_1126, lr_1125, lt_1134, ll_1134, lr_1085, lt_1142, ll_1142, lr_1142, lt_1147, ll_1147, lr_1143, lt_1207, ll_1207, lr_1144, lt_1267, ll_1267, lr_1145, lt_1327, ll_1327, lr_1146, lt_1387, ll_1387, lr_1447, lt_1459, ll_1459, lr_1455, lt_1461, ll_1461, lr_1461, lt_1463, ll_1463, lr_1462, lt_1471, ll_1471, lr_1456, lt_1479, ll_1479, lr_1479, lt_1481, ll_1481, lr_1480, lt_1489, ll_1489, lr_1457, lt_1497, ll_1497, lr_1497, lt_1499, ll_1499, lr_1498, lt_1507, ll_1507, lr_1458, lt_1515, ll_1515, lr_1515, lt_1520, ll_1520, lr_1516, lt_1580, ll_1580, lr_1517, lt_1640, ll_1640, lr_1518, lt_1700, ll_1700, lr_1519, lt_1760, ll_1760]
      refine ⟨fun _ => ?_, fun c => absurd (by omega) c⟩
      have T67 : v5 6367 = y 6367 := by rw [V5 _ (by omega)]; exact v3f _ (by omega) (by omega)
      have T68 : v5 6368 = y 6368 := by rw [V5 _ (by omega)]; exact v3f _ (by omega) (by omega)
      have T98 : v5 6098 = y 6098 := by rw [V5' _ (by omega)]; exact v3m _ (by omega) (by omega)
      have T72 : v5 6372 = y 6372 := by rw [V5 _ (by omega)]; exact V3 _ (by omega) (by omega) (by omega) (by omega) (by omega) (by omega) (by omega) (by omega) (by omega) (by omega) (by omega)
      have T33 : v5 7433 = frc y o0 o1 0 := by rw [V5 _ (by omega)]; exact F0
      have T34 : v5 7434 = frc y o0 o1 1 := by rw [V5 _ (by omega)]; exact F1
      refine tn_end l (by rw [T33]; omega) (by rw [T34]; omega) (by rw [T67]; omega) (by rw [T98]; exact bfar) (by rw [T68]; omega) (by rw [T72, bke]; omega) (fun _ => ?_)
      rw [T33, T34, T67, T68, T98]
      have eth : y 6367 + clamp3 ((frc y o0 o1 0 - frc y o0 o1 1).tdiv 100) = thF y o0 o1 := rfl
      rw [eth]
      have Y9 : ∀ a, a ≠ 6367 → a ≠ 6368 → a ≠ 6369 → hh_upd (hh_upd (hh_upd v5 6367 (thF y o0 o1)) 6369 (wonF (thF y o0 o1) (y 6098))) 6368 (y 6368 + 1) a = v5 a := fun a q1 q2 q3 => by rw [hh_upd_ne q2, hh_upd_ne q3, hh_upd_ne q1]
      have Y67 : hh_upd (hh_upd (hh_upd v5 6367 (thF y o0 o1)) 6369 (wonF (thF y o0 o1) (y 6098))) 6368 (y 6368 + 1) 6367 = thF y o0 o1 := by rw [hh_upd_ne (by omega), hh_upd_ne (by omega), hh_upd_same]
      have Y69 : hh_upd (hh_upd (hh_upd v5 6367 (thF y o0 o1)) 6369 (wonF (thF y o0 o1) (y 6098))) 6368 (y 6368 + 1) 6369 = wonF (thF y o0 o1) (y 6098) := by rw [hh_upd_ne (by omega), hh_upd_same]
      have Y68 : hh_upd (hh_upd (hh_upd v5 6367 (thF y o0 o1)) 6369 (wonF (thF y o0 o1) (y 6098))) 6368 (y 6368 + 1) 6368 = y 6368 + 1 := hh_upd_same _ _ _
      generalize hh_upd (hh_upd (hh_upd v5 6367 (thF y o0 o1)) 6369 (wonF (thF y o0 o1) (y 6098))) 6368 (y 6368 + 1) = y9 at Y9 Y67 Y68 Y69 ⊢
      have Y9' : ∀ a, 6370 ≤ a → y9 a = v3 a := fun a q => by rw [Y9 a (by omega) (by omega) (by omega), V5 a (by omega)]
      have Y72 : y9 6372 = y 6372 := by rw [Y9 _ (by omega) (by omega) (by omega)]; exact T72
      refine sp_keepTenth l (by rw [Y72, bke]; omega) (fun w a1 a2 a3 a4 a5 a6 a7 a8 => ?_)
      rw [Y9' 6421 (by omega), V3t _ (by omega) (by omega), s1] at a2
      rw [Y9' 6422 (by omega), V3t _ (by omega) (by omega), s2] at a3
      rw [Y9' 7433 (by omega), F0] at a4
      rw [Y9' 7434 (by omega), F1] at a5
      rw [Y67] at a6
      rw [Y72] at a7
      refine h w (fun k hk => ?_) (fun a q1 q2 q3 => ?_)
      · by_cases c1 : k < 10
        · rw [tenF_hd _ _ _ c1]
          unfold hdF
          by_cases c2 : k < 2
          · rw [if_pos c2, a8 _ (by omega) (by omega), Y9 _ (by omega) (by omega) (by omega)]
            exact V5g k c2
          · rw [if_neg c2]
            rcases (show k = 2 ∨ k = 3 ∨ k = 4 ∨ k = 5 ∨ k = 6 ∨ k = 7 ∨ k = 8 ∨ k = 9 by omega) with rfl | rfl | rfl | rfl | rfl | rfl | rfl | rfl
            · show w 6365 = y 6365
              rw [a8 _ (by omega) (by omega), Y9 _ (by omega) (by omega) (by omega), V5 _ (by omega)]; exact v3f _ (by omega) (by omega)
            · show w 6366 = y 6366
              rw [a8 _ (by omega) (by omega), Y9 _ (by omega) (by omega) (by omega), V5 _ (by omega)]; exact v3f _ (by omega) (by omega)
            · show w 6367 = thF y o0 o1
              rw [a8 _ (by omega) (by omega)]; exact Y67
            · show w 6368 = y 6368 + 1
              rw [a8 _ (by omega) (by omega)]; exact Y68
            · show w 6369 = wonF (thF y o0 o1) (y 6098)
              rw [a8 _ (by omega) (by omega)]; exact Y69
            · show w 6370 = (gvF y o0 o1).1
              rw [a8 _ (by omega) (by omega), Y9' _ (by omega), ← G]
            · show w 6371 = (gvF y o0 o1).2
              rw [a8 _ (by omega) (by omega), Y9' _ (by omega), ← G]
            · show w 6372 = (if y 6372 < 60 then y 6372 + 1 else y 6372)
              exact a7
        · by_cases c2 : k < 58
          · have hS : (k - 10) % 16 / 8 < 2 := by omega
            have hP : (k - 10) % 8 < 8 := by omega
            have hI : (k - 10) / 16 < 3 := by omega
            have hk3 : k = 10 + 16 * ((k - 10) / 16) + 8 * ((k - 10) % 16 / 8) + (k - 10) % 8 := by omega
            generalize (k - 10) % 16 / 8 = s at hS hk3
            generalize (k - 10) % 8 = p at hP hk3
            generalize (k - 10) / 16 = i at hI hk3
            subst hk3
            rw [tenF_md _ _ _ hI hS hP, a8 _ (by omega) (by omega), Y9' _ (by omega)]
            unfold mdF
            have keep : ¬ p < cnt y s → v3 (6363 + (10 + 16 * i + 8 * s + p)) = y (6363 + (10 + 16 * i + 8 * s + p)) := fun c => by
              rcases (show s = 0 ∨ s = 1 by omega) with rfl | rfl <;> exact V3 _ (by omega) (by omega) (by omega) (by omega) (by omega) (by omega) (by omega) (by omega) (by omega) (by omega) (by omega)
            by_cases c3 : p < cnt y s
            · rw [if_pos c3]
              rcases (show s = 0 ∨ s = 1 by omega) with rfl | rfl
              · have P := p2 p c3
                rw [k3 _ (by omega) (by omega) (by omega) (by omega) (by omega) (by omega)]
                rcases (show i = 0 ∨ i = 1 ∨ i = 2 by omega) with rfl | rfl | rfl
                · exact P.1
                · exact P.2.1
                · exact P.2.2
              · have P := p3 p c3
                rcases (show i = 0 ∨ i = 1 ∨ i = 2 by omega) with rfl | rfl | rfl
                · exact P.1
                · exact P.2.1
                · exact P.2.2
            · rw [if_neg c3]; exact keep c3
          · by_cases c3 : k < 70
            · rw [tenF_td _ _ _ (by omega) c3, a8 _ (by omega) (by omega), Y9' _ (by omega), V3t _ (by omega) (by omega)]
              unfold tdF
              by_cases d1 : k = 58
              · rw [if_pos d1, d1]; exact s1
              · rw [if_neg d1]
                by_cases d2 : k = 59
                · rw [if_pos d2, d2]; exact s2
                · rw [if_neg d2]
                  have := s3 (k - 58) (by omega) (by omega)
                  rw [show 6363 + k = 6421 + (k - 58) by omega, this]
                  congr 1; omega
            · rw [tenF_tl _ _ _ (by omega)]
              unfold tlF
              by_cases d0 : k = 70
              · rw [if_pos d0, d0]; exact a2
              · rw [if_neg d0]
                by_cases d1 : k = 71
                · rw [if_pos d1, d1]; exact a3
                · rw [if_neg d1]
                  by_cases d2 : k = 72
                  · rw [if_pos d2, d2]; exact a4
                  · rw [if_neg d2]
                    by_cases d3 : k = 73
                    · rw [if_pos d3, d3]; exact a5
                    · rw [if_neg d3]
                      by_cases d4 : k = 74
                      · rw [if_pos d4, d4]; exact a6
                      · rw [if_neg d4, a1 k (by omega) hk, Y9' _ (by omega)]
                        exact V3 _ (by omega) (by omega) (by omega) (by omega) (by omega) (by omega) (by omega) (by omega) (by omega) (by omega) (by omega)
      · rw [a8 a (by omega) (by omega), Y9 a (by omega) (by omega) (by omega), k5 a (by omega), k4 a (by omega)]
        exact V3 a (by omega) (by omega) q2 q3 (by omega) (by omega) (by omega) (by omega) (by omega) (by omega) (by omega)
    exact key 2 rfl
  have key : ∀ s : Nat, s = 2 → At 52 [some (Vr 5723), none, none, some (Vi s), none, none] [] v3 := by
    intro s hs
    refine h52 _ _ _ ?_
    simp only [hb_X10_tenth_52, hb_X10_tenth_160, hc_iconst, hc_lconst, hc_iload, hc_lload, hc_aload, hc_istore, hc_astore, hc_lstore, hc_iinc, hc_dup, hc_dup2, hc_pop, hc_iadd, hc_isub, hc_imul, hc_iaddw, hc_isubw, hc_imulw, hc_inegw, hc_idiv, hc_irem, hc_ineg, hc_b2, hc_b1, hc_i2l, hc_l2i, hc_ladd, hc_l2, hc_lsh, hc_lcmp, hc_if, hc_icmp, hc_jump, hc_getI, hc_getR, hc_putI, hc_putZ, hc_xald, hc_iast, hc_bast, hc_zast, hc_aald, hc_alen, hc_copy, hc_gets, hc_getsI, hc_sald, hc_ldcs, hc_sval, hc_scod, hc_slen, hc_sbald, hc_callI, hc_callL, hc_callV, hc_max, hc_min, hc_abs, hc_ireturn, hc_zreturn, hc_creturn, hc_lreturn, hc_return, hc_none, hc_switch, hv_sw, hv_get, hv_set, hv_set2, hv_mask, hv_fr, hv_noL, hv_pop, hv_pk, hv_isO, hv_isS, hv_any, hv_w, hv_cat, he_nil, he_i, he_r, he_l, hv_repl_0, hv_repl_s, if_true, if_false, and_true, true_and, and_self, Nat.zero_add, Nat.add_zero, Nat.reduceAdd, Nat.reduceLeDiff, List.length_cons, List.length_nil, Int.toNat_natCast, Bool.false_eq_true, reduceIte, Int.toNat_zero, Int.toNat_one, Int.reduceToNat, or_true, true_or, Int.reduceEq, Int.reduceLT, Int.reduceLE, Int.reduceNeg, Int.reduceAdd, Int.reduceSub, Int.reduceMul, Nat.reduceMul, Nat.reduceEqDiff, implies_true, false_implies, true_implies, not_true_eq_false, not_false_eq_true, ne_eq, or_false, false_or, and_false, false_and, or_self, Classical.not_not, Int.zero_add, Int.add_zero, lc_0, lc_22, lc_730, lc_902, lc_1074, lc_1447, lc_1824, lc_2081, lc_2135, lc_4258, lc_5723, lr_0, lt_14, ll_14, lr_2, lr_4, lr_5, lr_6, lr_7, lr_8, lt_1820, ll_1820, lr_9, lt_1822, ll_1822, lr_10, lr_11, lr_12, lr_13, lr_22, lt_30, ll_30, lr_1824, lt_1825, ll_1825, lr_2081, lt_2086, ll_2086, lr_2082, lt_2102, ll_2102, lr_2083, lt_2118, ll_2118, lr_2135, lt_2137, ll_2137, lr_4263, lt_4265, ll_4265, lr_5725, lt_5755, ll_5755, lr_5726, lt_5763, ll_5763, lr_5727, lt_5771, ll_5771, lr_5728, lt_6091, ll_6091, lr_5729, lt_6227, ll_6227, lr_5731, lt_6363, ll_6363, lr_5732, lt_6733, ll_6733, lr_5743, lt_7433, ll_7433, lr_5744, lt_7435, ll_7435, lr_5745, lt_7805, ll_7805, lr_5746, lt_7809, ll_7809, lr_5747, lt_8065, ll_8065, lr_5748, lt_8165, ll_8165, lr_5750, lt_8265, ll_8265, lr_5751, lt_8267, ll_8267, lr_5752, lt_8539, ll_8539, lr_5753, lt_9279, ll_9279, lr_731, lt_733, ll_733, lr_732, lt_899, ll_899, lr_903, lt_905, ll_905, lr_904, lt_1071, ll_1071, lr_1074, lt_1086, ll_1086, lr_1082, lt_1088, ll_1088, lr_1088, lt_1090, ll_1090, lr_1089, lt_1098, ll_1098, lr_1083, lt_1106, ll_1106, lr_1106, lt_1108, ll_1108, lr_1107, lt_1116, ll_1116, lr_1084, lt_1124, ll_1124, lr_1124, lt_1126, ll_1126, lr_1125, lt_1134, ll_1134, lr_1085, lt_1142, ll_1142, lr_1142, lt_1147, ll_1147, lr_1143, lt_1207, ll_1207, lr_1144, lt_1267, ll_1267, lr_1145, lt_1327, ll_1327, lr_1146, lt_1387, ll_1387, lr_1447, lt_1459, ll_1459, lr_1455, lt_1461, ll_1461, lr_1461, lt_1463, ll_1463, lr_1462, lt_1471, ll_1471, lr_1456, lt_1479, ll_1479, lr_1479, lt_1481, ll_1481, lr_1480, lt_1489, ll_1489, lr_1457, lt_1497, ll_1497, lr_1497, lt_1499, ll_1499, lr_1498, lt_1507, ll_1507, lr_1458, lt_1515, ll_1515, lr_1515, lt_1520, ll_1520, lr_1516, lt_1580, ll_1580, lr_1517, lt_1640, ll_1640, lr_1518, lt_1700, ll_1700, lr_1519, lt_1760, ll_1760]
    exact ⟨fun _ => hm0, fun c => absurd (by omega) c⟩
  exact key 2 rfl
