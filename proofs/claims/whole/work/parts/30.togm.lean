/-! together, the reference and both -/
theorem sp_ofT (l : Launch) {s p k : Nat} (hs : s < 2) (hp : p < 8) (hk : k < 5) {x y : hm} (hy : ∀ a, a ≠ 5723 → y a = x a) {Q : Int → hm → Prop} (h : Q (tw x s p k) y) : hm_I l m_X10_of 1 [Vr 5723, Vi s, Vi p, Vi k] y Q := by
  refine sp_of l hs hp hk ?_
  rw [hy _ (by omega)]
  exact h
def bestF (x : hm) (s e c : Nat) : Nat → Nat × Int
  | 0 => (0, -1)
  | t + 1 => if sumT x s e (t : Nat) c ≤ (bestF x s e c t).2 then bestF x s e c t else (t, sumT x s e (t : Nat) c)
theorem bestF_eq {x : hm} {s c : Nat} (h : okT x s c) (e : Nat) : ∀ t, bestF x s e c (t + 1) = (bestT x s e c t, sumT x s e (bestT x s e c t : Nat) c)
  | 0 => by
    have := sumT_b h e ((0 : Nat) : Int) c (Nat.le_refl _)
    show (if sumT x s e ((0 : Nat) : Int) c ≤ -1 then _ else _) = _
    rw [if_neg (by omega)]
    rfl
  | t + 1 => by
    have ih := bestF_eq h e t
    show (if sumT x s e ((t + 1 : Nat) : Int) c ≤ (bestF x s e c (t + 1)).2 then _ else _) = _
    rw [ih]
    show (if sumT x s e ((t + 1 : Nat) : Int) c ≤ sumT x s e (bestT x s e c t : Nat) c then _ else _) = _
    have es : bestT x s e c (t + 1) = if sumT x s e ((t + 1 : Nat) : Int) c ≤ sumT x s e (bestT x s e c t : Nat) c then bestT x s e c t else t + 1 := rfl
    by_cases g : sumT x s e ((t + 1 : Nat) : Int) c ≤ sumT x s e (bestT x s e c t : Nat) c
    · rw [if_pos g] at es ⊢; rw [es]
    · rw [if_neg g] at es ⊢; rw [es]
theorem bestF_b {x : hm} {s c : Nat} (h : okT x s c) (e : Nat) : ∀ t, (bestF x s e c t).1 ≤ t ∧ -1 ≤ (bestF x s e c t).2 ∧ (bestF x s e c t).2 ≤ 400 * c
  | 0 => ⟨Nat.le_refl _, by show (-1 : Int) ≤ -1; omega, by show (-1 : Int) ≤ _; omega⟩
  | t + 1 => by
    have ih := bestF_b h e t
    have hb := sumT_b h e (t : Nat) c (Nat.le_refl _)
    unfold bestF
    split
    · exact ⟨by omega, ih.2.1, ih.2.2⟩
    · exact ⟨by show t ≤ t + 1; omega, by show -1 ≤ sumT x s e (t : Nat) c; omega, hb.2⟩
theorem mo_together (l : Launch) {x : hm} {s e w : Int} (hc : ∀ k, k < 2 → 0 ≤ x (6091 + k) ∧ x (6091 + k) ≤ 8 ∧ okT x k (x (6091 + k)).toNat) {Q : Int → hm → Prop} (hbad : ¬ ((0 ≤ s ∧ s < 2 ∧ x (6091 + s.toNat) ≠ 0) ∧ (0 ≤ e ∧ e ≤ 50) ∧ 0 ≤ w ∧ w ≤ 1) → ∀ y : hm, (∀ a, a ≠ 5723 → y a = x a) → Q (-1000001) y)
    (hok : ∀ k u c : Nat, s = k → k < 2 → e = u → u ≤ 50 → 0 ≤ w → w ≤ 1 → x (6091 + k) = c → 0 < c → ∀ y : hm, (∀ a, a ≠ 5723 → y a = x a) → Q (if w = 0 then sumT x k u (bestT x k u c 5 : Nat) c else (bestT x k u c 5 : Nat)) y) : hm_I l m_X10_together 3 [Vr 5723, Vi s, Vi e, Vi w] x Q := by
  have F : ∀ a, a ≠ 5723 → hh_upd x 5723 0 a = x a := fun a ha => hh_upd_ne ha
  refine hr_X10_together l (Nat.le_of_ble_eq_true rfl) ?_
  intro At h57 h70 h96
  simp only [hb_X10_together_45, hb_X10_together_204, hb_X10_together_202, hb_X10_together_197, hb_X10_together_193, hb_X10_together_185, hb_X10_together_183, hb_X10_together_178, hb_X10_together_169, hb_X10_together_167, hb_X10_together_162, hb_X10_together_155, hb_X10_together_146, hb_X10_together_138, hb_X10_together_127, hb_X10_together_118, hb_X10_together_102, hb_X10_together_96, hb_X10_together_83, hb_X10_together_70, hb_X10_together_64, hb_X10_together_57, hb_X10_together_48, hb_X10_together_35, hb_X10_together_23, hb_X10_together_12, hb_X10_together_0, hc_iconst, hc_lconst, hc_iload, hc_lload, hc_aload, hc_istore, hc_astore, hc_lstore, hc_iinc, hc_dup, hc_dup2, hc_pop, hc_iadd, hc_isub, hc_imul, hc_iaddw, hc_isubw, hc_imulw, hc_inegw, hc_idiv, hc_irem, hc_ineg, hc_b2, hc_b1, hc_i2l, hc_l2i, hc_ladd, hc_l2, hc_lsh, hc_lcmp, hc_if, hc_icmp, hc_jump, hc_getI, hc_getR, hc_putI, hc_putZ, hc_xald, hc_iast, hc_bast, hc_zast, hc_aald, hc_alen, hc_copy, hc_gets, hc_getsI, hc_sald, hc_ldcs, hc_sval, hc_scod, hc_slen, hc_sbald, hc_callI, hc_callL, hc_callV, hc_max, hc_min, hc_abs, hc_ireturn, hc_zreturn, hc_creturn, hc_lreturn, hc_return, hc_none, hc_switch, hv_sw, hv_get, hv_set, hv_set2, hv_mask, hv_fr, hv_noL, hv_pop, hv_pk, hv_isO, hv_isS, hv_any, hv_w, hv_cat, he_nil, he_i, he_r, he_l, hv_repl_0, hv_repl_s, if_true, if_false, and_true, true_and, and_self, Nat.zero_add, Nat.add_zero, Nat.reduceAdd, Nat.reduceLeDiff, List.length_cons, List.length_nil, Int.toNat_natCast, Bool.false_eq_true, reduceIte, Int.toNat_zero, Int.toNat_one, Int.reduceToNat, or_true, true_or, Int.reduceEq, Int.reduceLT, Int.reduceLE, Int.reduceNeg, Int.reduceAdd, Int.reduceSub, Int.reduceMul, Nat.reduceMul, Nat.reduceEqDiff, implies_true, false_implies, true_implies, not_true_eq_false, not_false_eq_true, ne_eq, or_false, false_or, and_false, false_and, or_self, Classical.not_not, Int.zero_add, Int.add_zero, lc_0, lc_22, lc_730, lc_902, lc_1074, lc_1447, lc_1824, lc_2081, lc_2135, lc_4258, lc_5723, lr_0, lt_14, ll_14, lr_2, lr_4, lr_5, lr_6, lr_7, lr_8, lt_1820, ll_1820, lr_9, lt_1822, ll_1822, lr_10, lr_11, lr_12, lr_13, lr_22, lt_30, ll_30, lr_1824, lt_1825, ll_1825, lr_2081, lt_2086, ll_2086, lr_2082, lt_2102, ll_2102, lr_2083, lt_2118, ll_2118, lr_2135, lt_2137, ll_2137, lr_4263, lt_4265, ll_4265, lr_5725, lt_5755, ll_5755, lr_5726, lt_5763, ll_5763, lr_5727, lt_5771, ll_5771, lr_5728, lt_6091, ll_6091, lr_5729, lt_6227, ll_6227, lr_5731, lt_6363, ll_6363, lr_5732, lt_6733, ll_6733, lr_5743, lt_7433, ll_7433, lr_5744, lt_7435, ll_7435, lr_5745, lt_7805, ll_7805, lr_5746, lt_7809, ll_7809, lr_5747, lt_8065, ll_8065, lr_5748, lt_8165, ll_8165, lr_5750, lt_8265, ll_8265, lr_5751, lt_8267, ll_8267, lr_5752, lt_8539, ll_8539, lr_5753, lt_9279, ll_9279, lr_731, lt_733, ll_733, lr_732, lt_899, ll_899, lr_903, lt_905, ll_905, lr_904, lt_1071, ll_1071, lr_1074, lt_1086, ll_1086, lr_1082, lt_1088, ll_1088, lr_1088, lt_1090, ll_1090, lr_1089, lt_1098, ll_1098, lr_1083, lt_1106, ll_1106, lr_1106, lt_1108, ll_1108, lr_1107, lt_1116, ll_1116, lr_1084, lt_1124, ll_1124, lr_1124, lt_1126, ll_1126, lr_1125, lt_1134, ll_1134, lr_1085, lt_1142, ll_1142, lr_1142, lt_1147, ll_1147, lr_1143, lt_1207, ll_1207, lr_1144, lt_1267, ll_1267, lr_1145, lt_1327, ll_1327, lr_1146, lt_1387, ll_1387, lr_1447, lt_1459, ll_1459, lr_1455, lt_1461, ll_1461, lr_1461, lt_1463, ll_1463, lr_1462, lt_1471, ll_1471, lr_1456, lt_1479, ll_1479, lr_1479, lt_1481, ll_1481, lr_1480, lt_1489, ll_1489, lr_1457, lt_1497, ll_1497, lr_1497, lt_1499, ll_1499, lr_1498, lt_1507, ll_1507, lr_1458, lt_1515, ll_1515, lr_1515, lt_1520, ll_1520, lr_1516, lt_1580, ll_1580, lr_1517, lt_1640, ll_1640, lr_1518, lt_1700, ll_1700, lr_1519, lt_1760, ll_1760]
  refine sp_isSide_a l (fun g1 g2 => ?_) (fun g => hbad (fun c => g ⟨c.1.1, by omega⟩) _ F)
  obtain ⟨k, rfl⟩ := Int.eq_ofNat_of_zero_le g1
  have hk : k < 2 := by omega
  have hck := hc k hk
  generalize hh_upd x 5723 0 = y at F ⊢
  simp only [Int.toNat_natCast, Int.zero_add] at hbad ⊢
  have ey : y (6091 + k) = x (6091 + k) := F _ (by omega)
  obtain ⟨c, hcc⟩ := Int.eq_ofNat_of_zero_le hck.1
  have hT : okT x k c := by have := hck.2.2; rw [hcc] at this; exact this
  have hc8 : c ≤ 8 := by omega
  rw [ey]
  refine ⟨⟨by omega, by omega⟩, ⟨by omega, by omega⟩, fun z0 => hbad (fun c => c.1.2.2 z0) _ F, fun z0 => ?_⟩
  refine sp_in_a l (fun g3 g4 => ?_) (fun g => hbad (fun c => g c.2.1) _ F)
  refine sp_in_b l (fun g5 g6 => ?_) (fun g => hbad (fun c => g c.2.2) _ F)
  obtain ⟨u, rfl⟩ := Int.eq_ofNat_of_zero_le g3
  have hok := hok k u c rfl hk rfl (by omega) g5 g6 hcc (by omega) y F
  have hw : ∀ t : Nat, t ≤ 6 → At 57 [some (Vr 5723), some (Vi k), some (Vi u), some (Vi w), some (Vi (bestF x k u c t).1), some (Vi (bestF x k u c t).2), some (Vi t), none, none, none, none] [] y := by
    refine lp_m (fun t : Nat => 6 - t) ?_
    intro t ht ih
    refine h57 _ _ _ ?_
    simp only [hb_X10_together_45, hb_X10_together_204, hb_X10_together_202, hb_X10_together_197, hb_X10_together_193, hb_X10_together_185, hb_X10_together_183, hb_X10_together_178, hb_X10_together_169, hb_X10_together_167, hb_X10_together_162, hb_X10_together_155, hb_X10_together_146, hb_X10_together_138, hb_X10_together_127, hb_X10_together_118, hb_X10_together_102, hb_X10_together_96, hb_X10_together_83, hb_X10_together_70, hb_X10_together_64, hb_X10_together_57, hb_X10_together_48, hb_X10_together_35, hb_X10_together_23, hb_X10_together_12, hb_X10_together_0, hc_iconst, hc_lconst, hc_iload, hc_lload, hc_aload, hc_istore, hc_astore, hc_lstore, hc_iinc, hc_dup, hc_dup2, hc_pop, hc_iadd, hc_isub, hc_imul, hc_iaddw, hc_isubw, hc_imulw, hc_inegw, hc_idiv, hc_irem, hc_ineg, hc_b2, hc_b1, hc_i2l, hc_l2i, hc_ladd, hc_l2, hc_lsh, hc_lcmp, hc_if, hc_icmp, hc_jump, hc_getI, hc_getR, hc_putI, hc_putZ, hc_xald, hc_iast, hc_bast, hc_zast, hc_aald, hc_alen, hc_copy, hc_gets, hc_getsI, hc_sald, hc_ldcs, hc_sval, hc_scod, hc_slen, hc_sbald, hc_callI, hc_callL, hc_callV, hc_max, hc_min, hc_abs, hc_ireturn, hc_zreturn, hc_creturn, hc_lreturn, hc_return, hc_none, hc_switch, hv_sw, hv_get, hv_set, hv_set2, hv_mask, hv_fr, hv_noL, hv_pop, hv_pk, hv_isO, hv_isS, hv_any, hv_w, hv_cat, he_nil, he_i, he_r, he_l, hv_repl_0, hv_repl_s, if_true, if_false, and_true, true_and, and_self, Nat.zero_add, Nat.add_zero, Nat.reduceAdd, Nat.reduceLeDiff, List.length_cons, List.length_nil, Int.toNat_natCast, Bool.false_eq_true, reduceIte, Int.toNat_zero, Int.toNat_one, Int.reduceToNat, or_true, true_or, Int.reduceEq, Int.reduceLT, Int.reduceLE, Int.reduceNeg, Int.reduceAdd, Int.reduceSub, Int.reduceMul, Nat.reduceMul, Nat.reduceEqDiff, implies_true, false_implies, true_implies, not_true_eq_false, not_false_eq_true, ne_eq, or_false, false_or, and_false, false_and, or_self, Classical.not_not, Int.zero_add, Int.add_zero, lc_0, lc_22, lc_730, lc_902, lc_1074, lc_1447, lc_1824, lc_2081, lc_2135, lc_4258, lc_5723, lr_0, lt_14, ll_14, lr_2, lr_4, lr_5, lr_6, lr_7, lr_8, lt_1820, ll_1820, lr_9, lt_1822, ll_1822, lr_10, lr_11, lr_12, lr_13, lr_22, lt_30, ll_30, lr_1824, lt_1825, ll_1825, lr_2081, lt_2086, ll_2086, lr_2082, lt_2102, ll_2102, lr_2083, lt_2118, ll_2118, lr_2135, lt_2137, ll_2137, lr_4263, lt_4265, ll_4265, lr_5725, lt_5755, ll_5755, lr_5726, lt_5763, ll_5763, lr_5727, lt_5771, ll_5771, lr_5728, lt_6091, ll_6091, lr_5729, lt_6227, ll_6227, lr_5731, lt_6363, ll_6363, lr_5732, lt_6733, ll_6733, lr_5743, lt_7433, ll_7433, lr_5744, lt_7435, ll_7435, lr_5745, lt_7805, ll_7805, lr_5746, lt_7809, ll_7809, lr_5747, lt_8065, ll_8065, lr_5748, lt_8165, ll_8165, lr_5750, lt_8265, ll_8265, lr_5751, lt_8267, ll_8267, lr_5752, lt_8539, ll_8539, lr_5753, lt_9279, ll_9279, lr_731, lt_733, ll_733, lr_732, lt_899, ll_899, lr_903, lt_905, ll_905, lr_904, lt_1071, ll_1071, lr_1074, lt_1086, ll_1086, lr_1082, lt_1088, ll_1088, lr_1088, lt_1090, ll_1090, lr_1089, lt_1098, ll_1098, lr_1083, lt_1106, ll_1106, lr_1106, lt_1108, ll_1108, lr_1107, lt_1116, ll_1116, lr_1084, lt_1124, ll_1124, lr_1124, lt_1126, ll_1126, lr_1125, lt_1134, ll_1134, lr_1085, lt_1142, ll_1142, lr_1142, lt_1147, ll_1147, lr_1143, lt_1207, ll_1207, lr_1144, lt_1267, ll_1267, lr_1145, lt_1327, ll_1327, lr_1146, lt_1387, ll_1387, lr_1447, lt_1459, ll_1459, lr_1455, lt_1461, ll_1461, lr_1461, lt_1463, ll_1463, lr_1462, lt_1471, ll_1471, lr_1456, lt_1479, ll_1479, lr_1479, lt_1481, ll_1481, lr_1480, lt_1489, ll_1489, lr_1457, lt_1497, ll_1497, lr_1497, lt_1499, ll_1499, lr_1498, lt_1507, ll_1507, lr_1458, lt_1515, ll_1515, lr_1515, lt_1520, ll_1520, lr_1516, lt_1580, ll_1580, lr_1517, lt_1640, ll_1640, lr_1518, lt_1700, ll_1700, lr_1519, lt_1760, ll_1760]
    have hbF := bestF_b hT u t
    refine ⟨fun g => ?_, fun g => ?_⟩
    · have : t = 6 := by omega
      subst this
      rw [bestF_eq hT u 5]
      refine ⟨fun w0 => ?_, fun w0 => ?_⟩
      · rw [if_neg w0] at hok; exact hok
      · rw [if_pos w0] at hok; exact hok
    · have ih' := ih (t + 1) (by omega) (by show 6 - (t + 1) < 6 - t; omega)
      have inner : ∀ p : Nat, p ≤ c → At 70 [some (Vr 5723), some (Vi k), some (Vi u), some (Vi w), some (Vi (bestF x k u c t).1), some (Vi (bestF x k u c t).2), some (Vi t), some (Vi (sumT x k u (t : Nat) p)), some (Vi p), none, none] [] y := by
        refine lp_m (fun p : Nat => c - p) ?_
        intro p hp ih2
        refine h70 _ _ _ ?_
        simp only [hb_X10_together_45, hb_X10_together_204, hb_X10_together_202, hb_X10_together_197, hb_X10_together_193, hb_X10_together_185, hb_X10_together_183, hb_X10_together_178, hb_X10_together_169, hb_X10_together_167, hb_X10_together_162, hb_X10_together_155, hb_X10_together_146, hb_X10_together_138, hb_X10_together_127, hb_X10_together_118, hb_X10_together_102, hb_X10_together_96, hb_X10_together_83, hb_X10_together_70, hb_X10_together_64, hb_X10_together_57, hb_X10_together_48, hb_X10_together_35, hb_X10_together_23, hb_X10_together_12, hb_X10_together_0, hc_iconst, hc_lconst, hc_iload, hc_lload, hc_aload, hc_istore, hc_astore, hc_lstore, hc_iinc, hc_dup, hc_dup2, hc_pop, hc_iadd, hc_isub, hc_imul, hc_iaddw, hc_isubw, hc_imulw, hc_inegw, hc_idiv, hc_irem, hc_ineg, hc_b2, hc_b1, hc_i2l, hc_l2i, hc_ladd, hc_l2, hc_lsh, hc_lcmp, hc_if, hc_icmp, hc_jump, hc_getI, hc_getR, hc_putI, hc_putZ, hc_xald, hc_iast, hc_bast, hc_zast, hc_aald, hc_alen, hc_copy, hc_gets, hc_getsI, hc_sald, hc_ldcs, hc_sval, hc_scod, hc_slen, hc_sbald, hc_callI, hc_callL, hc_callV, hc_max, hc_min, hc_abs, hc_ireturn, hc_zreturn, hc_creturn, hc_lreturn, hc_return, hc_none, hc_switch, hv_sw, hv_get, hv_set, hv_set2, hv_mask, hv_fr, hv_noL, hv_pop, hv_pk, hv_isO, hv_isS, hv_any, hv_w, hv_cat, he_nil, he_i, he_r, he_l, hv_repl_0, hv_repl_s, if_true, if_false, and_true, true_and, and_self, Nat.zero_add, Nat.add_zero, Nat.reduceAdd, Nat.reduceLeDiff, List.length_cons, List.length_nil, Int.toNat_natCast, Bool.false_eq_true, reduceIte, Int.toNat_zero, Int.toNat_one, Int.reduceToNat, or_true, true_or, Int.reduceEq, Int.reduceLT, Int.reduceLE, Int.reduceNeg, Int.reduceAdd, Int.reduceSub, Int.reduceMul, Nat.reduceMul, Nat.reduceEqDiff, implies_true, false_implies, true_implies, not_true_eq_false, not_false_eq_true, ne_eq, or_false, false_or, and_false, false_and, or_self, Classical.not_not, Int.zero_add, Int.add_zero, lc_0, lc_22, lc_730, lc_902, lc_1074, lc_1447, lc_1824, lc_2081, lc_2135, lc_4258, lc_5723, lr_0, lt_14, ll_14, lr_2, lr_4, lr_5, lr_6, lr_7, lr_8, lt_1820, ll_1820, lr_9, lt_1822, ll_1822, lr_10, lr_11, lr_12, lr_13, lr_22, lt_30, ll_30, lr_1824, lt_1825, ll_1825, lr_2081, lt_2086, ll_2086, lr_2082, lt_2102, ll_2102, lr_2083, lt_2118, ll_2118, lr_2135, lt_2137, ll_2137, lr_4263, lt_4265, ll_4265, lr_5725, lt_5755, ll_5755, lr_5726, lt_5763, ll_5763, lr_5727, lt_5771, ll_5771, lr_5728, lt_6091, ll_6091, lr_5729, lt_6227, ll_6227, lr_5731, lt_6363, ll_6363, lr_5732, lt_6733, ll_6733, lr_5743, lt_7433, ll_7433, lr_5744, lt_7435, ll_7435, lr_5745, lt_7805, ll_7805, lr_5746, lt_7809, ll_7809, lr_5747, lt_8065, ll_8065, lr_5748, lt_8165, ll_8165, lr_5750, lt_8265, ll_8265, lr_5751, lt_8267, ll_8267, lr_5752, lt_8539, ll_8539, lr_5753, lt_9279, ll_9279, lr_731, lt_733, ll_733, lr_732, lt_899, ll_899, lr_903, lt_905, ll_905, lr_904, lt_1071, ll_1071, lr_1074, lt_1086, ll_1086, lr_1082, lt_1088, ll_1088, lr_1088, lt_1090, ll_1090, lr_1089, lt_1098, ll_1098, lr_1083, lt_1106, ll_1106, lr_1106, lt_1108, ll_1108, lr_1107, lt_1116, ll_1116, lr_1084, lt_1124, ll_1124, lr_1124, lt_1126, ll_1126, lr_1125, lt_1134, ll_1134, lr_1085, lt_1142, ll_1142, lr_1142, lt_1147, ll_1147, lr_1143, lt_1207, ll_1207, lr_1144, lt_1267, ll_1267, lr_1145, lt_1327, ll_1327, lr_1146, lt_1387, ll_1387, lr_1447, lt_1459, ll_1459, lr_1455, lt_1461, ll_1461, lr_1461, lt_1463, ll_1463, lr_1462, lt_1471, ll_1471, lr_1456, lt_1479, ll_1479, lr_1479, lt_1481, ll_1481, lr_1480, lt_1489, ll_1489, lr_1457, lt_1497, ll_1497, lr_1497, lt_1499, ll_1499, lr_1498, lt_1507, ll_1507, lr_1458, lt_1515, ll_1515, lr_1515, lt_1520, ll_1520, lr_1516, lt_1580, ll_1580, lr_1517, lt_1640, ll_1640, lr_1518, lt_1700, ll_1700, lr_1519, lt_1760, ll_1760]
        have hb := sumT_b hT u (t : Nat) p hp
        rw [ey, hcc]
        refine ⟨⟨by omega, by omega⟩, ⟨by omega, by omega⟩, fun g2 => ?_, fun g2 => ?_⟩
        · have : p = c := by omega
          subst this
          have es : bestF x k u p (t + 1) = if sumT x k u (t : Nat) p ≤ (bestF x k u p t).2 then bestF x k u p t else (t, sumT x k u (t : Nat) p) := rfl
          refine ⟨fun g3 => ⟨fun _ => ⟨⟨by omega, by omega⟩, ?_⟩, fun e => absurd g3 e⟩, fun g3 => ⟨fun e => absurd e g3, fun _ => ⟨⟨by omega, by omega⟩, ?_⟩⟩⟩
          · rw [if_pos g3] at es; rw [es] at ih'; exact ih'
          · rw [if_neg g3] at es; rw [es] at ih'; exact ih'
        · have hpc : p < c := by omega
          have hT' := hT p hpc
          have ih2' := ih2 (p + 1) (by omega) (by show c - (p + 1) < c - p; omega)
          have es : sumT x k u (t : Nat) (p + 1) = sumT x k u (t : Nat) p + if pract (tw x k p 4) u = (t : Nat) then tw x k p 2 else tw x k p 1 := rfl
          refine sp_ofT (k := 4) l hk (by omega) (by decide) F ?_
          have pl : ∀ j : Nat, j ≤ u → At 96 [some (Vr 5723), some (Vi k), some (Vi u), some (Vi w), some (Vi (bestF x k u c t).1), some (Vi (bestF x k u c t).2), some (Vi t), some (Vi (sumT x k u (t : Nat) p)), some (Vi p), some (Vi (pract (tw x k p 4) j)), some (Vi j)] [] y := by
            refine lp_m (fun j : Nat => u - j) ?_
            intro j hj ih3
            have hb := pract_b hT'.2.2 j
            have hb2 : 0 ≤ (pract (tw x k p 4) j * 9).tdiv 10 ∧ (pract (tw x k p 4) j * 9).tdiv 10 ≤ 5 := pract_b hT'.2.2 (j + 1)
            refine h96 _ _ _ ?_
            simp only [hb_X10_together_45, hb_X10_together_204, hb_X10_together_202, hb_X10_together_197, hb_X10_together_193, hb_X10_together_185, hb_X10_together_183, hb_X10_together_178, hb_X10_together_169, hb_X10_together_167, hb_X10_together_162, hb_X10_together_155, hb_X10_together_146, hb_X10_together_138, hb_X10_together_127, hb_X10_together_118, hb_X10_together_102, hb_X10_together_96, hb_X10_together_83, hb_X10_together_70, hb_X10_together_64, hb_X10_together_57, hb_X10_together_48, hb_X10_together_35, hb_X10_together_23, hb_X10_together_12, hb_X10_together_0, hc_iconst, hc_lconst, hc_iload, hc_lload, hc_aload, hc_istore, hc_astore, hc_lstore, hc_iinc, hc_dup, hc_dup2, hc_pop, hc_iadd, hc_isub, hc_imul, hc_iaddw, hc_isubw, hc_imulw, hc_inegw, hc_idiv, hc_irem, hc_ineg, hc_b2, hc_b1, hc_i2l, hc_l2i, hc_ladd, hc_l2, hc_lsh, hc_lcmp, hc_if, hc_icmp, hc_jump, hc_getI, hc_getR, hc_putI, hc_putZ, hc_xald, hc_iast, hc_bast, hc_zast, hc_aald, hc_alen, hc_copy, hc_gets, hc_getsI, hc_sald, hc_ldcs, hc_sval, hc_scod, hc_slen, hc_sbald, hc_callI, hc_callL, hc_callV, hc_max, hc_min, hc_abs, hc_ireturn, hc_zreturn, hc_creturn, hc_lreturn, hc_return, hc_none, hc_switch, hv_sw, hv_get, hv_set, hv_set2, hv_mask, hv_fr, hv_noL, hv_pop, hv_pk, hv_isO, hv_isS, hv_any, hv_w, hv_cat, he_nil, he_i, he_r, he_l, hv_repl_0, hv_repl_s, if_true, if_false, and_true, true_and, and_self, Nat.zero_add, Nat.add_zero, Nat.reduceAdd, Nat.reduceLeDiff, List.length_cons, List.length_nil, Int.toNat_natCast, Bool.false_eq_true, reduceIte, Int.toNat_zero, Int.toNat_one, Int.reduceToNat, or_true, true_or, Int.reduceEq, Int.reduceLT, Int.reduceLE, Int.reduceNeg, Int.reduceAdd, Int.reduceSub, Int.reduceMul, Nat.reduceMul, Nat.reduceEqDiff, implies_true, false_implies, true_implies, not_true_eq_false, not_false_eq_true, ne_eq, or_false, false_or, and_false, false_and, or_self, Classical.not_not, Int.zero_add, Int.add_zero, lc_0, lc_22, lc_730, lc_902, lc_1074, lc_1447, lc_1824, lc_2081, lc_2135, lc_4258, lc_5723, lr_0, lt_14, ll_14, lr_2, lr_4, lr_5, lr_6, lr_7, lr_8, lt_1820, ll_1820, lr_9, lt_1822, ll_1822, lr_10, lr_11, lr_12, lr_13, lr_22, lt_30, ll_30, lr_1824, lt_1825, ll_1825, lr_2081, lt_2086, ll_2086, lr_2082, lt_2102, ll_2102, lr_2083, lt_2118, ll_2118, lr_2135, lt_2137, ll_2137, lr_4263, lt_4265, ll_4265, lr_5725, lt_5755, ll_5755, lr_5726, lt_5763, ll_5763, lr_5727, lt_5771, ll_5771, lr_5728, lt_6091, ll_6091, lr_5729, lt_6227, ll_6227, lr_5731, lt_6363, ll_6363, lr_5732, lt_6733, ll_6733, lr_5743, lt_7433, ll_7433, lr_5744, lt_7435, ll_7435, lr_5745, lt_7805, ll_7805, lr_5746, lt_7809, ll_7809, lr_5747, lt_8065, ll_8065, lr_5748, lt_8165, ll_8165, lr_5750, lt_8265, ll_8265, lr_5751, lt_8267, ll_8267, lr_5752, lt_8539, ll_8539, lr_5753, lt_9279, ll_9279, lr_731, lt_733, ll_733, lr_732, lt_899, ll_899, lr_903, lt_905, ll_905, lr_904, lt_1071, ll_1071, lr_1074, lt_1086, ll_1086, lr_1082, lt_1088, ll_1088, lr_1088, lt_1090, ll_1090, lr_1089, lt_1098, ll_1098, lr_1083, lt_1106, ll_1106, lr_1106, lt_1108, ll_1108, lr_1107, lt_1116, ll_1116, lr_1084, lt_1124, ll_1124, lr_1124, lt_1126, ll_1126, lr_1125, lt_1134, ll_1134, lr_1085, lt_1142, ll_1142, lr_1142, lt_1147, ll_1147, lr_1143, lt_1207, ll_1207, lr_1144, lt_1267, ll_1267, lr_1145, lt_1327, ll_1327, lr_1146, lt_1387, ll_1387, lr_1447, lt_1459, ll_1459, lr_1455, lt_1461, ll_1461, lr_1461, lt_1463, ll_1463, lr_1462, lt_1471, ll_1471, lr_1456, lt_1479, ll_1479, lr_1479, lt_1481, ll_1481, lr_1480, lt_1489, ll_1489, lr_1457, lt_1497, ll_1497, lr_1497, lt_1499, ll_1499, lr_1498, lt_1507, ll_1507, lr_1458, lt_1515, ll_1515, lr_1515, lt_1520, ll_1520, lr_1516, lt_1580, ll_1580, lr_1517, lt_1640, ll_1640, lr_1518, lt_1700, ll_1700, lr_1519, lt_1760, ll_1760]
            refine ⟨fun g3 => ?_, fun g3 => ?_⟩
            · have : j = u := by omega
              subst this
              refine ⟨fun g4 => ?_, fun g4 => ?_⟩
              · rw [if_neg g4] at es; rw [es] at ih2'
                refine sp_ofT (k := 1) l hk (by omega) (by decide) F ?_
                (repeat' (with_reducible refine And.intro ?_ ?_)) <;> first | exact ih2' | exact trivial | omega | exact ⟨by omega, by omega⟩
              · rw [if_pos g4] at es; rw [es] at ih2'
                refine sp_ofT (k := 2) l hk (by omega) (by decide) F ?_
                (repeat' (with_reducible refine And.intro ?_ ?_)) <;> first | exact ih2' | exact trivial | omega | exact ⟨by omega, by omega⟩
            · have ih3' := ih3 (j + 1) (by omega) (by show u - (j + 1) < u - j; omega)
              (repeat' (with_reducible refine And.intro ?_ ?_)) <;> first | exact ih3' | exact trivial | omega | exact ⟨by omega, by omega⟩
          exact pl 0 (Nat.zero_le _)
      exact inner 0 (Nat.zero_le _)
  exact hw 0 (Nat.zero_le _)
theorem I5.okT {x : hm} (h : I5 x) {k : Nat} (hk : k < 2) : 0 ≤ x (6091 + k) ∧ x (6091 + k) ≤ 8 ∧ okT x k (x (6091 + k)).toNat := by
  obtain ⟨-, h2, -⟩ := h
  rcases h2 with ⟨-, z⟩ | ⟨-, o⟩
  · have := z k (by omega)
    rw [this]
    exact ⟨by decide, by decide, fun p hp => absurd hp (Nat.not_lt_zero _)⟩
  · have o1 := o.1 k hk
    refine ⟨by omega, by omega, fun p hp => ?_⟩
    have := o1.2.1 p (by omega) (by omega)
    unfold tw
    rw [show 6091 + (8 + 40 * k + 5 * p + 1) = 6091 + 8 + 40 * k + 5 * p + 1 by omega, show 6091 + (8 + 40 * k + 5 * p + 2) = 6091 + 8 + 40 * k + 5 * p + 2 by omega, show 6091 + (8 + 40 * k + 5 * p + 4) = 6091 + 8 + 40 * k + 5 * p + 4 by omega]
    exact ⟨this.2.1, this.2.2.1, this.2.2.2.2⟩
/-- a match stands just where a side has pullers -/
theorem I5.st {x : hm} (h : I5 x) {k : Nat} (hk : k < 2) : (x 730 = 0 ∧ x (6091 + k) = 0) ∨ (x 730 = 1 ∧ 1 ≤ x (6091 + k)) := by
  obtain ⟨-, h2, -⟩ := h
  rcases h2 with ⟨a, z⟩ | ⟨a, o⟩
  · exact Or.inl ⟨a, z k (by omega)⟩
  · exact Or.inr ⟨a, (o.1 k hk).1.1⟩
theorem pr_together (l : Launch) {n : Nat} {x : hm} (hI : IV n x) {s e w : Int} : hm_I l m_X9_together 4 [Vr 0, Vi s, Vi e, Vi w] x (fun r x1 => hm_I l m_X10_together 3 [Vr 5723, Vi s, Vi e, Vi w] x1 (fun r2 x2 => r = r2 ∧ IV (n + 1) x2)) := by
  obtain ⟨j1, j2, j3, j4, j5, j6, j7, j8, j9, j10⟩ := hI
  have bad : ¬ ((0 ≤ s ∧ s < 2 ∧ x (6091 + s.toNat) ≠ 0) ∧ (0 ≤ e ∧ e ≤ 50) ∧ 0 ≤ w ∧ w ≤ 1) → hm_I l m_X10_together 3 [Vr 5723, Vi s, Vi e, Vi w] x (fun r2 x2 => -1000001 = r2 ∧ IV (n + 1) x2) := fun g => by
    refine mo_together l (fun k hk => j5.okT hk) (fun _ y F => ⟨rfl, (I1_congr (fun a ha => F a (by omega)) j1), (I2_congr (fun a ha => F a (by omega)) j2), (I3_congr (fun a ha => F a (by omega)) j3), (I4_congr (fun a ha => F a (by omega)) j4), (I5_congr (fun a ha => F a (by omega)) j5), (I6_congr (by omega) (fun a ha => F a (by omega)) j6), (I7_congr (by omega) (fun a ha => F a (by omega)) j7), (I8_congr (fun a ha => F a (by omega)) j8), (I9_congr (fun a ha => F a (by omega)) j9), (I10_congr (fun a ha => F a (by omega)) j10)⟩) (fun k u c e1 hk e2 hu g5 g6 e3 hc y F => ?_)
    subst e1 e2
    exact absurd ⟨⟨by omega, by omega, by rw [Int.toNat_natCast]; omega⟩, ⟨by omega, by omega⟩, g5, g6⟩ g
  refine hr_X9_together l (Nat.le_of_ble_eq_true rfl) ?_
  simp only [hb_X9_together_35, hb_X9_together_74, hb_X9_together_72, hb_X9_together_61, hb_X9_together_38, hb_X9_together_25, hb_X9_together_17, hb_X9_together_8, hb_X9_together_0, hc_iconst, hc_lconst, hc_iload, hc_lload, hc_aload, hc_istore, hc_astore, hc_lstore, hc_iinc, hc_dup, hc_dup2, hc_pop, hc_iadd, hc_isub, hc_imul, hc_iaddw, hc_isubw, hc_imulw, hc_inegw, hc_idiv, hc_irem, hc_ineg, hc_b2, hc_b1, hc_i2l, hc_l2i, hc_ladd, hc_l2, hc_lsh, hc_lcmp, hc_if, hc_icmp, hc_jump, hc_getI, hc_getR, hc_putI, hc_putZ, hc_xald, hc_iast, hc_bast, hc_zast, hc_aald, hc_alen, hc_copy, hc_gets, hc_getsI, hc_sald, hc_ldcs, hc_sval, hc_scod, hc_slen, hc_sbald, hc_callI, hc_callL, hc_callV, hc_max, hc_min, hc_abs, hc_ireturn, hc_zreturn, hc_creturn, hc_lreturn, hc_return, hc_none, hc_switch, hv_sw, hv_get, hv_set, hv_set2, hv_mask, hv_fr, hv_noL, hv_pop, hv_pk, hv_isO, hv_isS, hv_any, hv_w, hv_cat, he_nil, he_i, he_r, he_l, hv_repl_0, hv_repl_s, if_true, if_false, and_true, true_and, and_self, Nat.zero_add, Nat.add_zero, Nat.reduceAdd, Nat.reduceLeDiff, List.length_cons, List.length_nil, Int.toNat_natCast, Bool.false_eq_true, reduceIte, Int.toNat_zero, Int.toNat_one, Int.reduceToNat, or_true, true_or, Int.reduceEq, Int.reduceLT, Int.reduceLE, Int.reduceNeg, Int.reduceAdd, Int.reduceSub, Int.reduceMul, Nat.reduceMul, Nat.reduceEqDiff, implies_true, false_implies, true_implies, not_true_eq_false, not_false_eq_true, ne_eq, or_false, false_or, and_false, false_and, or_self, Classical.not_not, Int.zero_add, Int.add_zero, lc_0, lc_22, lc_730, lc_902, lc_1074, lc_1447, lc_1824, lc_2081, lc_2135, lc_4258, lc_5723, lr_0, lt_14, ll_14, lr_2, lr_4, lr_5, lr_6, lr_7, lr_8, lt_1820, ll_1820, lr_9, lt_1822, ll_1822, lr_10, lr_11, lr_12, lr_13, lr_22, lt_30, ll_30, lr_1824, lt_1825, ll_1825, lr_2081, lt_2086, ll_2086, lr_2082, lt_2102, ll_2102, lr_2083, lt_2118, ll_2118, lr_2135, lt_2137, ll_2137, lr_4263, lt_4265, ll_4265, lr_5725, lt_5755, ll_5755, lr_5726, lt_5763, ll_5763, lr_5727, lt_5771, ll_5771, lr_5728, lt_6091, ll_6091, lr_5729, lt_6227, ll_6227, lr_5731, lt_6363, ll_6363, lr_5732, lt_6733, ll_6733, lr_5743, lt_7433, ll_7433, lr_5744, lt_7435, ll_7435, lr_5745, lt_7805, ll_7805, lr_5746, lt_7809, ll_7809, lr_5747, lt_8065, ll_8065, lr_5748, lt_8165, ll_8165, lr_5750, lt_8265, ll_8265, lr_5751, lt_8267, ll_8267, lr_5752, lt_8539, ll_8539, lr_5753, lt_9279, ll_9279, lr_731, lt_733, ll_733, lr_732, lt_899, ll_899, lr_903, lt_905, ll_905, lr_904, lt_1071, ll_1071, lr_1074, lt_1086, ll_1086, lr_1082, lt_1088, ll_1088, lr_1088, lt_1090, ll_1090, lr_1089, lt_1098, ll_1098, lr_1083, lt_1106, ll_1106, lr_1106, lt_1108, ll_1108, lr_1107, lt_1116, ll_1116, lr_1084, lt_1124, ll_1124, lr_1124, lt_1126, ll_1126, lr_1125, lt_1134, ll_1134, lr_1085, lt_1142, ll_1142, lr_1142, lt_1147, ll_1147, lr_1143, lt_1207, ll_1207, lr_1144, lt_1267, ll_1267, lr_1145, lt_1327, ll_1327, lr_1146, lt_1387, ll_1387, lr_1447, lt_1459, ll_1459, lr_1455, lt_1461, ll_1461, lr_1461, lt_1463, ll_1463, lr_1462, lt_1471, ll_1471, lr_1456, lt_1479, ll_1479, lr_1479, lt_1481, ll_1481, lr_1480, lt_1489, ll_1489, lr_1457, lt_1497, ll_1497, lr_1497, lt_1499, ll_1499, lr_1498, lt_1507, ll_1507, lr_1458, lt_1515, ll_1515, lr_1515, lt_1520, ll_1520, lr_1516, lt_1580, ll_1580, lr_1517, lt_1640, ll_1640, lr_1518, lt_1700, ll_1700, lr_1519, lt_1760, ll_1760]
  refine sp_within_a l (fun g1 g2 => ?_) (fun g => bad (fun c => g ⟨c.1.1, c.1.2.1⟩))
  refine sp_within_a l (fun g3 g4 => ?_) (fun g => bad (fun c => g ⟨c.2.1.1, by omega⟩))
  refine sp_within_a l (fun g5 g6 => ?_) (fun g => bad (fun c => g ⟨c.2.2.1, by omega⟩))
  obtain ⟨k, rfl⟩ := Int.eq_ofNat_of_zero_le g1
  obtain ⟨u, rfl⟩ := Int.eq_ofNat_of_zero_le g3
  have hk : k < 2 := by omega
  have hst := j5.st hk
  refine ⟨fun c1 => ?_, fun c1 => bad (fun c => c.1.2.2 (by rw [Int.toNat_natCast]; omega))⟩
  have hck := j5.okT hk
  obtain ⟨c, hcc⟩ := Int.eq_ofNat_of_zero_le hck.1
  have hT : okT x k c := by have := hck.2.2; rw [hcc] at this; exact this
  have hc0 : x (735 + 82 * k) = c := by rw [(j5.cnt hk).1.1]; exact hcc
  have hR : ∀ p q : Nat, p < c → q < 5 → x (735 + 82 * k + 12 + 5 * p + q) = tw x k p q := fun p q hp hq => RM.tr j5.2.2 hk (by omega) (by omega) hq
  have fin : ∀ r : Int, r = (if w = 0 then sumT x k u (bestT x k u c 5 : Nat) c else (bestT x k u c 5 : Nat)) → hm_I l m_X10_together 3 [Vr 5723, Vi k, Vi u, Vi w] x (fun r2 x2 => r = r2 ∧ IV (n + 1) x2) := fun r hr => by
    refine mo_together l (fun k hk => j5.okT hk) (fun g y F => ?_) (fun k2 u2 c2 e1 hk2 e2 hu g5 g6 e3 hc y F => ?_)
    · exact absurd ⟨⟨by omega, by omega, by rw [Int.toNat_natCast]; omega⟩, ⟨by omega, by omega⟩, g5, by omega⟩ g
    · have a1 : k2 = k := by omega
      have a2 : u2 = u := by omega
      subst a1 a2
      have a3 : c2 = c := by omega
      subst a3
      exact ⟨hr, (I1_congr (fun a ha => F a (by omega)) j1), (I2_congr (fun a ha => F a (by omega)) j2), (I3_congr (fun a ha => F a (by omega)) j3), (I4_congr (fun a ha => F a (by omega)) j4), (I5_congr (fun a ha => F a (by omega)) j5), (I6_congr (by omega) (fun a ha => F a (by omega)) j6), (I7_congr (by omega) (fun a ha => F a (by omega)) j7), (I8_congr (fun a ha => F a (by omega)) j8), (I9_congr (fun a ha => F a (by omega)) j9), (I10_congr (fun a ha => F a (by omega)) j10)⟩
  simp only [Int.toNat_natCast]
  rw [lr_m733 hk]
  simp only [sd_cls (is_side730 hk), true_and]
  refine ⟨⟨by omega, by omega⟩, ?_⟩
  refine sp_strongest l hk (by omega) (by omega) hc0 hT hR ?_
  refine ⟨fun w0 => fin _ (by rw [if_neg w0]), fun w0 => ?_⟩
  exact sp_forceT l hk (by omega) (by omega) hc0 hT hR (fin _ (by rw [if_pos w0]))
