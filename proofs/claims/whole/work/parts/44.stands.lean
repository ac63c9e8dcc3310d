/-! stands, the reference -/
def fB (x y : hm) : Prop := ∀ a, a ≠ 5723 → ¬ (7809 ≤ a ∧ a < 8065) → y a = x a
def F_stands (W : Nat → Nat → Int) (c : Nat) (T : Nat → Int) (place : Int) : Int := if place < 0 then T 0 else if (c : Int) ≤ place then -1000000 else mxp W T (pth W T c place.toNat) c
theorem mo_stands (l : Launch) {x : hm} {s place : Int} (hc : ∀ k, k < 2 → 0 ≤ x (6091 + k) ∧ x (6091 + k) ≤ 8 ∧ okS x k (x (6091 + k)).toNat) (hpl : hv_I place) {Q : Int → hm → Prop} (hbad : ¬ ((0 ≤ s ∧ s < 2 ∧ x (6091 + s.toNat) ≠ 0) ∧ -1 ≤ place) → ∀ y : hm, fB x y → Q (-1000001) y)
    (hok : ∀ k c : Nat, s = k → k < 2 → -1 ≤ place → x (6091 + k) = c → 1 ≤ c → ∀ (y : hm), fB x y → okF (Wt x k c) c (fun u => y (7809 + u)) 0 → Q (F_stands (Wt x k c) c (fun u => y (7809 + u)) place) y) : hm_I l m_X10_stands 3 [Vr 5723, Vi s, Vi place] x Q := by
  have F : ∀ a, a ≠ 5723 → hh_upd x 5723 0 a = x a := fun a ha => hh_upd_ne ha
  have F0 : fB x (hh_upd x 5723 0) := fun a ha _ => F a ha
  refine hr_X10_stands l (Nat.le_of_ble_eq_true rfl) ?_
  intro At h61 h72 h178 h199
  simp only [hb_X10_stands_0, hb_X10_stands_12, hb_X10_stands_23, hb_X10_stands_28, hb_X10_stands_31, hc_iconst, hc_lconst, hc_iload, hc_lload, hc_aload, hc_istore, hc_astore, hc_lstore, hc_iinc, hc_dup, hc_dup2, hc_pop, hc_iadd, hc_isub, hc_imul, hc_iaddw, hc_isubw, hc_imulw, hc_inegw, hc_idiv, hc_irem, hc_ineg, hc_b2, hc_b1, hc_i2l, hc_l2i, hc_ladd, hc_l2, hc_lsh, hc_lcmp, hc_if, hc_icmp, hc_jump, hc_getI, hc_getR, hc_putI, hc_putZ, hc_xald, hc_iast, hc_bast, hc_zast, hc_aald, hc_alen, hc_copy, hc_gets, hc_getsI, hc_sald, hc_ldcs, hc_sval, hc_scod, hc_slen, hc_sbald, hc_callI, hc_callL, hc_callV, hc_max, hc_min, hc_abs, hc_ireturn, hc_zreturn, hc_creturn, hc_lreturn, hc_return, hc_none, hc_switch, hv_sw, hv_get, hv_set, hv_set2, hv_mask, hv_fr, hv_noL, hv_pop, hv_pk, hv_isO, hv_isS, hv_any, hv_w, hv_cat, he_nil, he_i, he_r, he_l, hv_repl_0, hv_repl_s, if_true, if_false, and_true, true_and, and_self, Nat.zero_add, Nat.add_zero, Nat.reduceAdd, Nat.reduceLeDiff, List.length_cons, List.length_nil, Int.toNat_natCast, Bool.false_eq_true, reduceIte, Int.toNat_zero, Int.toNat_one, Int.reduceToNat, or_true, true_or, Int.reduceEq, Int.reduceLT, Int.reduceLE, Int.reduceNeg, Int.reduceAdd, Int.reduceSub, Int.reduceMul, Nat.reduceMul, Nat.reduceEqDiff, implies_true, false_implies, true_implies, not_true_eq_false, not_false_eq_true, ne_eq, or_false, false_or, and_false, false_and, or_self, Classical.not_not, Int.zero_add, Int.add_zero, lc_0, lc_22, lc_730, lc_902, lc_1074, lc_1447, lc_1824, lc_2081, lc_2135, lc_4258, lc_5723, lr_0, lt_14, ll_14, lr_2, lr_4, lr_5, lr_6, lr_7, lr_8, lt_1820, ll_1820, lr_9, lt_1822, ll_1822, lr_10, lr_11, lr_12, lr_13, lr_22, lt_30, ll_30, lr_1824, lt_1825, ll_1825, lr_2081, lt_2086, ll_2086, lr_2082, lt_2102, ll_2102, lr_2083, lt_2118, ll_2118, lr_2135, lt_2137, ll_2137, lr_4263, lt_4265, ll_4265, lr_5725, lt_5755, ll_5755, lr_5726, lt_5763, ll_5763, lr_5727, lt_5771, ll_5771, lr_5728, lt_6091, ll_6091, lr_5729, lt_6227, ll_6227, lr_5731, lt_6363, ll_6363, lr_5732, lt_6733, ll_6733, lr_5743, lt_7433, ll_7433, lr_5744, lt_7435, ll_7435, lr_5745, lt_7805, ll_7805, lr_5746, lt_7809, ll_7809, lr_5747, lt_8065, ll_8065, lr_5748, lt_8165, ll_8165, lr_5750, lt_8265, ll_8265, lr_5751, lt_8267, ll_8267, lr_5752, lt_8539, ll_8539, lr_5753, lt_9279, ll_9279, lr_731, lt_733, ll_733, lr_732, lt_899, ll_899, lr_903, lt_905, ll_905, lr_904, lt_1071, ll_1071, lr_1074, lt_1086, ll_1086, lr_1082, lt_1088, ll_1088, lr_1088, lt_1090, ll_1090, lr_1089, lt_1098, ll_1098, lr_1083, lt_1106, ll_1106, lr_1106, lt_1108, ll_1108, lr_1107, lt_1116, ll_1116, lr_1084, lt_1124, ll_1124, lr_1124, lt_1126, ll_1126, lr_1125, lt_1134, ll_1134, lr_1085, lt_1142, ll_1142, lr_1142, lt_1147, ll_1147, lr_1143, lt_1207, ll_1207, lr_1144, lt_1267, ll_1267, lr_1145, lt_1327, ll_1327, lr_1146, lt_1387, ll_1387, lr_1447, lt_1459, ll_1459, lr_1455, lt_1461, ll_1461, lr_1461, lt_1463, ll_1463, lr_1462, lt_1471, ll_1471, lr_1456, lt_1479, ll_1479, lr_1479, lt_1481, ll_1481, lr_1480, lt_1489, ll_1489, lr_1457, lt_1497, ll_1497, lr_1497, lt_1499, ll_1499, lr_1498, lt_1507, ll_1507, lr_1458, lt_1515, ll_1515, lr_1515, lt_1520, ll_1520, lr_1516, lt_1580, ll_1580, lr_1517, lt_1640, ll_1640, lr_1518, lt_1700, ll_1700, lr_1519, lt_1760, ll_1760]
  refine sp_isSide_a l (fun g1 g2 => ?_) (fun g => hbad (fun c => g ⟨c.1.1, by omega⟩) _ F0)
  obtain ⟨k, rfl⟩ := Int.eq_ofNat_of_zero_le g1
  have hk : k < 2 := by omega
  have hck := hc k hk
  generalize hh_upd x 5723 0 = y at F F0 ⊢
  simp only [Int.toNat_natCast] at hbad
  have ey : y (6091 + k) = x (6091 + k) := F _ (by omega)
  obtain ⟨c, hcc⟩ := Int.eq_ofNat_of_zero_le hck.1
  have hS : okS x k c := by have := hck.2.2; rw [hcc] at this; exact this
  have hc8 : c ≤ 8 := by omega
  rw [Int.toNat_natCast, ey]
  refine ⟨⟨by omega, by omega⟩, ⟨by omega, by omega⟩, fun z0 => hbad (fun c => c.1.2.2 z0) _ F0, fun z0 => ⟨fun pl => ?_, fun pl => hbad (fun c => pl c.2) _ F0⟩⟩
  have hok := hok k c rfl hk pl hcc (by omega)
  have hW := Wt_b hS
  have hpow := pow_b hc8
  have hpow1 : 2 ≤ 2 ^ c := by
    have : ∀ c, c ≤ 8 → 1 ≤ c → 2 ≤ 2 ^ c := by decide
    exact this c hc8 (by omega)
  rw [hcc, b_full c hc8]
  -- the path
  have path : ∀ v : hm, fB x v → okF (Wt x k c) c (fun u => v (7809 + u)) 0 → 0 ≤ place → ∀ j : Nat, ((j : Int) ≤ place + 1 ∧ j ≤ c) → ∀ tk : Int, (0 < j → tk = mxp (Wt x k c) (fun u => v (7809 + u)) (pth (Wt x k c) (fun u => v (7809 + u)) c (j - 1)) c) → At 178 [some (Vr 5723), some (Vi k), some (Vi place), some (Vi c), none, some (Vi (pth (Wt x k c) (fun u => v (7809 + u)) c j : Nat)), some (Vi tk), some (Vi j), none, none] [] v := by
    intro v hv hF p0
    have hok := hok v hv hF
    unfold F_stands at hok
    rw [if_neg (by omega)] at hok
    refine lp_m (fun j : Nat => c - j) ?_
    intro j hj ih tk htk
    refine h178 _ _ _ ?_
    simp only [hb_X10_stands_178, hb_X10_stands_184, hb_X10_stands_190, hb_X10_stands_288, hb_X10_stands_293, hb_X10_stands_298, hb_X10_stands_300, hc_iconst, hc_lconst, hc_iload, hc_lload, hc_aload, hc_istore, hc_astore, hc_lstore, hc_iinc, hc_dup, hc_dup2, hc_pop, hc_iadd, hc_isub, hc_imul, hc_iaddw, hc_isubw, hc_imulw, hc_inegw, hc_idiv, hc_irem, hc_ineg, hc_b2, hc_b1, hc_i2l, hc_l2i, hc_ladd, hc_l2, hc_lsh, hc_lcmp, hc_if, hc_icmp, hc_jump, hc_getI, hc_getR, hc_putI, hc_putZ, hc_xald, hc_iast, hc_bast, hc_zast, hc_aald, hc_alen, hc_copy, hc_gets, hc_getsI, hc_sald, hc_ldcs, hc_sval, hc_scod, hc_slen, hc_sbald, hc_callI, hc_callL, hc_callV, hc_max, hc_min, hc_abs, hc_ireturn, hc_zreturn, hc_creturn, hc_lreturn, hc_return, hc_none, hc_switch, hv_sw, hv_get, hv_set, hv_set2, hv_mask, hv_fr, hv_noL, hv_pop, hv_pk, hv_isO, hv_isS, hv_any, hv_w, hv_cat, he_nil, he_i, he_r, he_l, hv_repl_0, hv_repl_s, if_true, if_false, and_true, true_and, and_self, Nat.zero_add, Nat.add_zero, Nat.reduceAdd, Nat.reduceLeDiff, List.length_cons, List.length_nil, Int.toNat_natCast, Bool.false_eq_true, reduceIte, Int.toNat_zero, Int.toNat_one, Int.reduceToNat, or_true, true_or, Int.reduceEq, Int.reduceLT, Int.reduceLE, Int.reduceNeg, Int.reduceAdd, Int.reduceSub, Int.reduceMul, Nat.reduceMul, Nat.reduceEqDiff, implies_true, false_implies, true_implies, not_true_eq_false, not_false_eq_true, ne_eq, or_false, false_or, and_false, false_and, or_self, Classical.not_not, Int.zero_add, Int.add_zero, lc_0, lc_22, lc_730, lc_902, lc_1074, lc_1447, lc_1824, lc_2081, lc_2135, lc_4258, lc_5723, lr_0, lt_14, ll_14, lr_2, lr_4, lr_5, lr_6, lr_7, lr_8, lt_1820, ll_1820, lr_9, lt_1822, ll_1822, lr_10, lr_11, lr_12, lr_13, lr_22, lt_30, ll_30, lr_1824, lt_1825, ll_1825, lr_2081, lt_2086, ll_2086, lr_2082, lt_2102, ll_2102, lr_2083, lt_2118, ll_2118, lr_2135, lt_2137, ll_2137, lr_4263, lt_4265, ll_4265, lr_5725, lt_5755, ll_5755, lr_5726, lt_5763, ll_5763, lr_5727, lt_5771, ll_5771, lr_5728, lt_6091, ll_6091, lr_5729, lt_6227, ll_6227, lr_5731, lt_6363, ll_6363, lr_5732, lt_6733, ll_6733, lr_5743, lt_7433, ll_7433, lr_5744, lt_7435, ll_7435, lr_5745, lt_7805, ll_7805, lr_5746, lt_7809, ll_7809, lr_5747, lt_8065, ll_8065, lr_5748, lt_8165, ll_8165, lr_5750, lt_8265, ll_8265, lr_5751, lt_8267, ll_8267, lr_5752, lt_8539, ll_8539, lr_5753, lt_9279, ll_9279, lr_731, lt_733, ll_733, lr_732, lt_899, ll_899, lr_903, lt_905, ll_905, lr_904, lt_1071, ll_1071, lr_1074, lt_1086, ll_1086, lr_1082, lt_1088, ll_1088, lr_1088, lt_1090, ll_1090, lr_1089, lt_1098, ll_1098, lr_1083, lt_1106, ll_1106, lr_1106, lt_1108, ll_1108, lr_1107, lt_1116, ll_1116, lr_1084, lt_1124, ll_1124, lr_1124, lt_1126, ll_1126, lr_1125, lt_1134, ll_1134, lr_1085, lt_1142, ll_1142, lr_1142, lt_1147, ll_1147, lr_1143, lt_1207, ll_1207, lr_1144, lt_1267, ll_1267, lr_1145, lt_1327, ll_1327, lr_1146, lt_1387, ll_1387, lr_1447, lt_1459, ll_1459, lr_1455, lt_1461, ll_1461, lr_1461, lt_1463, ll_1463, lr_1462, lt_1471, ll_1471, lr_1456, lt_1479, ll_1479, lr_1479, lt_1481, ll_1481, lr_1480, lt_1489, ll_1489, lr_1457, lt_1497, ll_1497, lr_1497, lt_1499, ll_1499, lr_1498, lt_1507, ll_1507, lr_1458, lt_1515, ll_1515, lr_1515, lt_1520, ll_1520, lr_1516, lt_1580, ll_1580, lr_1517, lt_1640, ll_1640, lr_1518, lt_1700, ll_1700, lr_1519, lt_1760, ll_1760]
    refine ⟨fun g => ⟨fun g2 => ?_, fun g2 => ?_⟩, fun g => ⟨fun g1 => ⟨fun g2 => ?_, fun g2 => ?_⟩, fun g1 => ?_⟩⟩
    · rw [if_pos g2] at hok; exact hok
    · rw [if_neg g2] at hok
      have e : place.toNat = j - 1 := by omega
      rw [e] at hok
      rw [htk (by omega)]; exact hok
    · rw [if_pos g2] at hok; exact hok
    · omega
    · have hjc : j < c := by omega
      have hp := pth_b hc8 hW hF j (by omega)
      have hl := pth_lt hc8 hW hF hjc
      obtain ⟨b, b1, b2, b3, b4, b5⟩ := okF_next hc8 hW hF hl
      generalize hset : pth (Wt x k c) (fun u => v (7809 + u)) c j = set at hp hl b1 b3 b4 b5
      have inner : ∀ q : Nat × Int, (q.1 ≤ c ∧ -1000000 ≤ q.2 ∧ q.2 ≤ 8 ∧ (q.1 ≤ b → q.2 = b)) → At 199 [some (Vr 5723), some (Vi k), some (Vi place), some (Vi c), none, some (Vi set), some (Vi q.2), some (Vi j), some (Vi ((q.1 : Int) - 1)), none] [] v := by
        refine lp_m (fun q : Nat × Int => q.1) ?_
        rintro ⟨q, t⟩ ⟨a1, a2, a2', a3⟩ ih2
        dsimp only at a1 a2 a2' a3
        refine h199 _ _ _ ?_
        simp only [hb_X10_stands_199, hb_X10_stands_204, hb_X10_stands_214, hb_X10_stands_246, hb_X10_stands_250, hb_X10_stands_251, hb_X10_stands_258, hb_X10_stands_263, hb_X10_stands_265, hb_X10_stands_273, hc_iconst, hc_lconst, hc_iload, hc_lload, hc_aload, hc_istore, hc_astore, hc_lstore, hc_iinc, hc_dup, hc_dup2, hc_pop, hc_iadd, hc_isub, hc_imul, hc_iaddw, hc_isubw, hc_imulw, hc_inegw, hc_idiv, hc_irem, hc_ineg, hc_b2, hc_b1, hc_i2l, hc_l2i, hc_ladd, hc_l2, hc_lsh, hc_lcmp, hc_if, hc_icmp, hc_jump, hc_getI, hc_getR, hc_putI, hc_putZ, hc_xald, hc_iast, hc_bast, hc_zast, hc_aald, hc_alen, hc_copy, hc_gets, hc_getsI, hc_sald, hc_ldcs, hc_sval, hc_scod, hc_slen, hc_sbald, hc_callI, hc_callL, hc_callV, hc_max, hc_min, hc_abs, hc_ireturn, hc_zreturn, hc_creturn, hc_lreturn, hc_return, hc_none, hc_switch, hv_sw, hv_get, hv_set, hv_set2, hv_mask, hv_fr, hv_noL, hv_pop, hv_pk, hv_isO, hv_isS, hv_any, hv_w, hv_cat, he_nil, he_i, he_r, he_l, hv_repl_0, hv_repl_s, if_true, if_false, and_true, true_and, and_self, Nat.zero_add, Nat.add_zero, Nat.reduceAdd, Nat.reduceLeDiff, List.length_cons, List.length_nil, Int.toNat_natCast, Bool.false_eq_true, reduceIte, Int.toNat_zero, Int.toNat_one, Int.reduceToNat, or_true, true_or, Int.reduceEq, Int.reduceLT, Int.reduceLE, Int.reduceNeg, Int.reduceAdd, Int.reduceSub, Int.reduceMul, Nat.reduceMul, Nat.reduceEqDiff, implies_true, false_implies, true_implies, not_true_eq_false, not_false_eq_true, ne_eq, or_false, false_or, and_false, false_and, or_self, Classical.not_not, Int.zero_add, Int.add_zero, lc_0, lc_22, lc_730, lc_902, lc_1074, lc_1447, lc_1824, lc_2081, lc_2135, lc_4258, lc_5723, lr_0, lt_14, ll_14, lr_2, lr_4, lr_5, lr_6, lr_7, lr_8, lt_1820, ll_1820, lr_9, lt_1822, ll_1822, lr_10, lr_11, lr_12, lr_13, lr_22, lt_30, ll_30, lr_1824, lt_1825, ll_1825, lr_2081, lt_2086, ll_2086, lr_2082, lt_2102, ll_2102, lr_2083, lt_2118, ll_2118, lr_2135, lt_2137, ll_2137, lr_4263, lt_4265, ll_4265, lr_5725, lt_5755, ll_5755, lr_5726, lt_5763, ll_5763, lr_5727, lt_5771, ll_5771, lr_5728, lt_6091, ll_6091, lr_5729, lt_6227, ll_6227, lr_5731, lt_6363, ll_6363, lr_5732, lt_6733, ll_6733, lr_5743, lt_7433, ll_7433, lr_5744, lt_7435, ll_7435, lr_5745, lt_7805, ll_7805, lr_5746, lt_7809, ll_7809, lr_5747, lt_8065, ll_8065, lr_5748, lt_8165, ll_8165, lr_5750, lt_8265, ll_8265, lr_5751, lt_8267, ll_8267, lr_5752, lt_8539, ll_8539, lr_5753, lt_9279, ll_9279, lr_731, lt_733, ll_733, lr_732, lt_899, ll_899, lr_903, lt_905, ll_905, lr_904, lt_1071, ll_1071, lr_1074, lt_1086, ll_1086, lr_1082, lt_1088, ll_1088, lr_1088, lt_1090, ll_1090, lr_1089, lt_1098, ll_1098, lr_1083, lt_1106, ll_1106, lr_1106, lt_1108, ll_1108, lr_1107, lt_1116, ll_1116, lr_1084, lt_1124, ll_1124, lr_1124, lt_1126, ll_1126, lr_1125, lt_1134, ll_1134, lr_1085, lt_1142, ll_1142, lr_1142, lt_1147, ll_1147, lr_1143, lt_1207, ll_1207, lr_1144, lt_1267, ll_1267, lr_1145, lt_1327, ll_1327, lr_1146, lt_1387, ll_1387, lr_1447, lt_1459, ll_1459, lr_1455, lt_1461, ll_1461, lr_1461, lt_1463, ll_1463, lr_1462, lt_1471, ll_1471, lr_1456, lt_1479, ll_1479, lr_1479, lt_1481, ll_1481, lr_1480, lt_1489, ll_1489, lr_1457, lt_1497, ll_1497, lr_1497, lt_1499, ll_1499, lr_1498, lt_1507, ll_1507, lr_1458, lt_1515, ll_1515, lr_1515, lt_1520, ll_1520, lr_1516, lt_1580, ll_1580, lr_1517, lt_1640, ll_1640, lr_1518, lt_1700, ll_1700, lr_1519, lt_1760, ll_1760]
        refine ⟨fun g => ?_, fun g => ?_⟩
        · have : q = 0 := by omega
          subst this
          have et : t = b := a3 (Nat.zero_le _)
          subst et
          rw [(b_add set (by omega) b (by omega) b3).1]
          refine ⟨⟨by omega, by omega⟩, ?_⟩
          have ih' := ih (j + 1) ⟨by omega, by omega⟩ (by show c - (j + 1) < c - j; omega) b (fun _ => by rw [Nat.add_sub_cancel, hset, b1])
          have e : pth (Wt x k c) (fun u => v (7809 + u)) c (j + 1) = set + 2 ^ b := by
            show pth _ _ c j + 2 ^ (mxp _ _ (pth _ _ c j) c).toNat = _
            rw [hset, b1, Int.toNat_natCast]
          rw [e] at ih'
          exact ih'
        · obtain ⟨p, rfl⟩ : ∃ p, q = p + 1 := ⟨q - 1, by omega⟩
          have ep : ((p + 1 : Nat) : Int) - 1 = p := by omega
          rw [ep, b_test set (by omega) p (by omega)]
          have hb := hs_b set p
          have nx : ∀ t' : Int, -1000000 ≤ t' → t' ≤ 8 → (p ≤ b → t' = b) → At 199 [some (Vr 5723), some (Vi k), some (Vi place), some (Vi c), none, some (Vi set), some (Vi t'), some (Vi j), some (Vi ((p : Int) - 1)), none] [] v := fun t' h1 h2 h3 => ih2 (p, t') ⟨by show p ≤ c; omega, h1, h2, h3⟩ (by show p < p + 1; omega)
          refine ⟨fun g2 => ⟨⟨by omega, by omega⟩, nx t a2 a2' (fun hpb => ?_)⟩, fun g2 => ?_⟩
          · by_cases e : p = b
            · subst e; omega
            · exact a3 (by omega)
          · have p0 : hs set p = 0 := by omega
            have hba := b_add set (by omega) p (by omega) p0
            have hin := b_in c hc8 set hp.1 p (by omega) p0
            refine sp_worthAt l hS hcc (fun a h1 h2 => hv a (by omega) (by omega)) (show j ≤ 8 by omega) (show p < c by omega) ?_
            rw [hba.1, Int.toNat_natCast]
            have hvl : Wt x k c j p + v (7809 + (set + 2 ^ p)) = vl (Wt x k c) (fun u => v (7809 + u)) set p := by unfold vl; rw [hp.2]
            have hpp : 1 ≤ 2 ^ p := Nat.one_le_two_pow
            have hT := okF_b hc8 hW hF (2 ^ c - 1 - (set + 2 ^ p)) (set + 2 ^ p) (by omega) (Nat.zero_le _)
            have hw := hW j p (by omega) (by omega)
            have b5' := b5 p (by omega) p0
            have b4' : v (7809 + set) = vl (Wt x k c) (fun u => v (7809 + u)) set b := b4
            rw [hvl, b4']
            have hi1 : hv_I (vl (Wt x k c) (fun u => v (7809 + u)) set p) := by rw [← hvl]; exact ⟨by omega, by omega⟩
            refine ⟨⟨Int.natCast_nonneg _, by omega⟩, hi1, ⟨by omega, by omega⟩, fun g3 => ⟨⟨by omega, by omega⟩, nx t a2 a2' (fun hpb => ?_)⟩, fun g3 => ⟨⟨by omega, by omega⟩, nx p (by omega) (by omega) (fun hpb => ?_)⟩⟩
            · by_cases e : p = b
              · subst e; exact absurd rfl g3
              · exact a3 (by omega)
            · by_cases e : p = b
              · rw [e]
              · have := b5'.2 (by omega); omega
      have := inner (c, -1000000) ⟨Nat.le_refl _, by show (-1000000 : Int) ≤ -1000000; decide, by show (-1000000 : Int) ≤ 8; decide, fun h => absurd b2 (by have : c ≤ b := h; omega)⟩
      exact ⟨⟨by omega, by omega⟩, this⟩
  have main : ∀ q : Nat × hm, (q.1 ≤ 2 ^ c - 1 ∧ fB x q.2 ∧ okF (Wt x k c) c (fun u => q.2 (7809 + u)) q.1) → At 61 [some (Vr 5723), some (Vi k), some (Vi place), some (Vi c), none, some (Vi ((q.1 : Int) - 1)), none, none, none, none] [] q.2 := by
    refine lp_m (fun q : Nat × hm => q.1) ?_
    rintro ⟨q, v⟩ ⟨a1, a2, a3⟩ ih
    dsimp only at a1 a2 a3
    refine h61 _ _ _ ?_
    simp only [hb_X10_stands_61, hb_X10_stands_66, hb_X10_stands_157, hb_X10_stands_161, hb_X10_stands_168, hc_iconst, hc_lconst, hc_iload, hc_lload, hc_aload, hc_istore, hc_astore, hc_lstore, hc_iinc, hc_dup, hc_dup2, hc_pop, hc_iadd, hc_isub, hc_imul, hc_iaddw, hc_isubw, hc_imulw, hc_inegw, hc_idiv, hc_irem, hc_ineg, hc_b2, hc_b1, hc_i2l, hc_l2i, hc_ladd, hc_l2, hc_lsh, hc_lcmp, hc_if, hc_icmp, hc_jump, hc_getI, hc_getR, hc_putI, hc_putZ, hc_xald, hc_iast, hc_bast, hc_zast, hc_aald, hc_alen, hc_copy, hc_gets, hc_getsI, hc_sald, hc_ldcs, hc_sval, hc_scod, hc_slen, hc_sbald, hc_callI, hc_callL, hc_callV, hc_max, hc_min, hc_abs, hc_ireturn, hc_zreturn, hc_creturn, hc_lreturn, hc_return, hc_none, hc_switch, hv_sw, hv_get, hv_set, hv_set2, hv_mask, hv_fr, hv_noL, hv_pop, hv_pk, hv_isO, hv_isS, hv_any, hv_w, hv_cat, he_nil, he_i, he_r, he_l, hv_repl_0, hv_repl_s, if_true, if_false, and_true, true_and, and_self, Nat.zero_add, Nat.add_zero, Nat.reduceAdd, Nat.reduceLeDiff, List.length_cons, List.length_nil, Int.toNat_natCast, Bool.false_eq_true, reduceIte, Int.toNat_zero, Int.toNat_one, Int.reduceToNat, or_true, true_or, Int.reduceEq, Int.reduceLT, Int.reduceLE, Int.reduceNeg, Int.reduceAdd, Int.reduceSub, Int.reduceMul, Nat.reduceMul, Nat.reduceEqDiff, implies_true, false_implies, true_implies, not_true_eq_false, not_false_eq_true, ne_eq, or_false, false_or, and_false, false_and, or_self, Classical.not_not, Int.zero_add, Int.add_zero, lc_0, lc_22, lc_730, lc_902, lc_1074, lc_1447, lc_1824, lc_2081, lc_2135, lc_4258, lc_5723, lr_0, lt_14, ll_14, lr_2, lr_4, lr_5, lr_6, lr_7, lr_8, lt_1820, ll_1820, lr_9, lt_1822, ll_1822, lr_10, lr_11, lr_12, lr_13, lr_22, lt_30, ll_30, lr_1824, lt_1825, ll_1825, lr_2081, lt_2086, ll_2086, lr_2082, lt_2102, ll_2102, lr_2083, lt_2118, ll_2118, lr_2135, lt_2137, ll_2137, lr_4263, lt_4265, ll_4265, lr_5725, lt_5755, ll_5755, lr_5726, lt_5763, ll_5763, lr_5727, lt_5771, ll_5771, lr_5728, lt_6091, ll_6091, lr_5729, lt_6227, ll_6227, lr_5731, lt_6363, ll_6363, lr_5732, lt_6733, ll_6733, lr_5743, lt_7433, ll_7433, lr_5744, lt_7435, ll_7435, lr_5745, lt_7805, ll_7805, lr_5746, lt_7809, ll_7809, lr_5747, lt_8065, ll_8065, lr_5748, lt_8165, ll_8165, lr_5750, lt_8265, ll_8265, lr_5751, lt_8267, ll_8267, lr_5752, lt_8539, ll_8539, lr_5753, lt_9279, ll_9279, lr_731, lt_733, ll_733, lr_732, lt_899, ll_899, lr_903, lt_905, ll_905, lr_904, lt_1071, ll_1071, lr_1074, lt_1086, ll_1086, lr_1082, lt_1088, ll_1088, lr_1088, lt_1090, ll_1090, lr_1089, lt_1098, ll_1098, lr_1083, lt_1106, ll_1106, lr_1106, lt_1108, ll_1108, lr_1107, lt_1116, ll_1116, lr_1084, lt_1124, ll_1124, lr_1124, lt_1126, ll_1126, lr_1125, lt_1134, ll_1134, lr_1085, lt_1142, ll_1142, lr_1142, lt_1147, ll_1147, lr_1143, lt_1207, ll_1207, lr_1144, lt_1267, ll_1267, lr_1145, lt_1327, ll_1327, lr_1146, lt_1387, ll_1387, lr_1447, lt_1459, ll_1459, lr_1455, lt_1461, ll_1461, lr_1461, lt_1463, ll_1463, lr_1462, lt_1471, ll_1471, lr_1456, lt_1479, ll_1479, lr_1479, lt_1481, ll_1481, lr_1480, lt_1489, ll_1489, lr_1457, lt_1497, ll_1497, lr_1497, lt_1499, ll_1499, lr_1498, lt_1507, ll_1507, lr_1458, lt_1515, ll_1515, lr_1515, lt_1520, ll_1520, lr_1516, lt_1580, ll_1580, lr_1517, lt_1640, ll_1640, lr_1518, lt_1700, ll_1700, lr_1519, lt_1760, ll_1760]
    refine ⟨fun g => ⟨fun p0 => ?_, fun p0 => ?_⟩, fun g => ?_⟩
    · have : q = 0 := by omega
      subst this
      have pz := path v a2 a3 p0 0 ⟨by omega, Nat.zero_le _⟩ (-1000000) (fun h => absurd h (Nat.lt_irrefl _))
      rw [show pth (Wt x k c) (fun u => v (7809 + u)) c 0 = 0 from rfl] at pz
      exact pz
    · have : q = 0 := by omega
      subst this
      have hok := hok v a2 a3
      unfold F_stands at hok
      rw [if_pos (by omega)] at hok
      exact ⟨by decide, hok⟩
    · obtain ⟨s, rfl⟩ : ∃ s, q = s + 1 := ⟨q - 1, by omega⟩
      have es : ((s + 1 : Nat) : Int) - 1 = s := by omega
      rw [es]
      have hs2 : s < 2 ^ c := by omega
      have hTb : ∀ u, s < u → u < 2 ^ c → 0 ≤ v (7809 + u) ∧ v (7809 + u) ≤ 60000 * 256 := fun u u1 u2 => by
        have := okF_b hc8 hW a3 (2 ^ c - 1 - u) u (by omega) (by omega)
        omega
      have v0 : ∀ p, p < c → hs s p = 0 → 0 ≤ vl (Wt x k c) (fun u => v (7809 + u)) s p := fun p hp hp0 => by
        have hpp : 1 ≤ 2 ^ p := Nat.one_le_two_pow
        have := hTb (s + 2 ^ p) (by omega) (b_in c hc8 s hs2 p hp hp0)
        have hw := hW (pc s) p (pc_b s) hp
        show 0 ≤ Wt x k c (pc s) p + v (7809 + (s + 2 ^ p))
        omega
      have inner : ∀ p : Nat, p ≤ c → At 72 [some (Vr 5723), some (Vi k), some (Vi place), some (Vi c), none, some (Vi s), some (Vi (mxv (Wt x k c) (fun u => v (7809 + u)) s p)), some (Vi p), none, none] [] v := by
        refine lp_m (fun p : Nat => c - p) ?_
        intro p hp ih2
        refine h72 _ _ _ ?_
        simp only [hb_X10_stands_72, hb_X10_stands_78, hb_X10_stands_89, hb_X10_stands_93, hb_X10_stands_118, hb_X10_stands_127, hb_X10_stands_132, hb_X10_stands_134, hb_X10_stands_142, hc_iconst, hc_lconst, hc_iload, hc_lload, hc_aload, hc_istore, hc_astore, hc_lstore, hc_iinc, hc_dup, hc_dup2, hc_pop, hc_iadd, hc_isub, hc_imul, hc_iaddw, hc_isubw, hc_imulw, hc_inegw, hc_idiv, hc_irem, hc_ineg, hc_b2, hc_b1, hc_i2l, hc_l2i, hc_ladd, hc_l2, hc_lsh, hc_lcmp, hc_if, hc_icmp, hc_jump, hc_getI, hc_getR, hc_putI, hc_putZ, hc_xald, hc_iast, hc_bast, hc_zast, hc_aald, hc_alen, hc_copy, hc_gets, hc_getsI, hc_sald, hc_ldcs, hc_sval, hc_scod, hc_slen, hc_sbald, hc_callI, hc_callL, hc_callV, hc_max, hc_min, hc_abs, hc_ireturn, hc_zreturn, hc_creturn, hc_lreturn, hc_return, hc_none, hc_switch, hv_sw, hv_get, hv_set, hv_set2, hv_mask, hv_fr, hv_noL, hv_pop, hv_pk, hv_isO, hv_isS, hv_any, hv_w, hv_cat, he_nil, he_i, he_r, he_l, hv_repl_0, hv_repl_s, if_true, if_false, and_true, true_and, and_self, Nat.zero_add, Nat.add_zero, Nat.reduceAdd, Nat.reduceLeDiff, List.length_cons, List.length_nil, Int.toNat_natCast, Bool.false_eq_true, reduceIte, Int.toNat_zero, Int.toNat_one, Int.reduceToNat, or_true, true_or, Int.reduceEq, Int.reduceLT, Int.reduceLE, Int.reduceNeg, Int.reduceAdd, Int.reduceSub, Int.reduceMul, Nat.reduceMul, Nat.reduceEqDiff, implies_true, false_implies, true_implies, not_true_eq_false, not_false_eq_true, ne_eq, or_false, false_or, and_false, false_and, or_self, Classical.not_not, Int.zero_add, Int.add_zero, lc_0, lc_22, lc_730, lc_902, lc_1074, lc_1447, lc_1824, lc_2081, lc_2135, lc_4258, lc_5723, lr_0, lt_14, ll_14, lr_2, lr_4, lr_5, lr_6, lr_7, lr_8, lt_1820, ll_1820, lr_9, lt_1822, ll_1822, lr_10, lr_11, lr_12, lr_13, lr_22, lt_30, ll_30, lr_1824, lt_1825, ll_1825, lr_2081, lt_2086, ll_2086, lr_2082, lt_2102, ll_2102, lr_2083, lt_2118, ll_2118, lr_2135, lt_2137, ll_2137, lr_4263, lt_4265, ll_4265, lr_5725, lt_5755, ll_5755, lr_5726, lt_5763, ll_5763, lr_5727, lt_5771, ll_5771, lr_5728, lt_6091, ll_6091, lr_5729, lt_6227, ll_6227, lr_5731, lt_6363, ll_6363, lr_5732, lt_6733, ll_6733, lr_5743, lt_7433, ll_7433, lr_5744, lt_7435, ll_7435, lr_5745, lt_7805, ll_7805, lr_5746, lt_7809, ll_7809, lr_5747, lt_8065, ll_8065, lr_5748, lt_8165, ll_8165, lr_5750, lt_8265, ll_8265, lr_5751, lt_8267, ll_8267, lr_5752, lt_8539, ll_8539, lr_5753, lt_9279, ll_9279, lr_731, lt_733, ll_733, lr_732, lt_899, ll_899, lr_903, lt_905, ll_905, lr_904, lt_1071, ll_1071, lr_1074, lt_1086, ll_1086, lr_1082, lt_1088, ll_1088, lr_1088, lt_1090, ll_1090, lr_1089, lt_1098, ll_1098, lr_1083, lt_1106, ll_1106, lr_1106, lt_1108, ll_1108, lr_1107, lt_1116, ll_1116, lr_1084, lt_1124, ll_1124, lr_1124, lt_1126, ll_1126, lr_1125, lt_1134, ll_1134, lr_1085, lt_1142, ll_1142, lr_1142, lt_1147, ll_1147, lr_1143, lt_1207, ll_1207, lr_1144, lt_1267, ll_1267, lr_1145, lt_1327, ll_1327, lr_1146, lt_1387, ll_1387, lr_1447, lt_1459, ll_1459, lr_1455, lt_1461, ll_1461, lr_1461, lt_1463, ll_1463, lr_1462, lt_1471, ll_1471, lr_1456, lt_1479, ll_1479, lr_1479, lt_1481, ll_1481, lr_1480, lt_1489, ll_1489, lr_1457, lt_1497, ll_1497, lr_1497, lt_1499, ll_1499, lr_1498, lt_1507, ll_1507, lr_1458, lt_1515, ll_1515, lr_1515, lt_1520, ll_1520, lr_1516, lt_1580, ll_1580, lr_1517, lt_1640, ll_1640, lr_1518, lt_1700, ll_1700, lr_1519, lt_1760, ll_1760]
        refine ⟨fun g2 => ?_, fun g2 => ?_⟩
        · have : p = c := by omega
          subst this
          have ih' := ih (s, hh_upd v (7809 + s) (mxv (Wt x k p) (fun u => v (7809 + u)) s p)) ⟨by show s ≤ 2 ^ p - 1; omega, fun a ha hb => ?_, ?_⟩ (by show s < s + 1; omega)
          rotate_left
          · show hh_upd v _ _ _ = _
            rw [hh_upd_ne (by omega)]
            exact a2 a ha hb
          · refine okF_step hc8 a3 (by omega) (fun u hu1 hu2 => ?_) ?_
            · show hh_upd v _ _ _ = _
              rw [hh_upd_ne (by omega)]
            · exact hh_upd_same _ _ _
          (repeat' (with_reducible refine And.intro ?_ ?_)) <;> first | exact ih' | exact trivial | omega | exact ⟨by omega, by omega⟩
        · have hpc : p < c := by omega
          have ih2' := ih2 (p + 1) (by omega) (by show c - (p + 1) < c - p; omega)
          rw [mxv_s] at ih2'
          rw [b_test s (by omega) p (by omega)]
          have hb := hs_b s p
          have mb : -1 ≤ mxv (Wt x k c) (fun u => v (7809 + u)) s p := by
            rcases mx_at v0 p hp with ⟨-, b2, -⟩ | ⟨b, -, b2, b3, b4, -⟩
            · omega
            · have := v0 b (by omega) b3; omega
          refine ⟨fun g3 => ?_, fun g3 => ⟨fun g4 => ⟨⟨by omega, by omega⟩, ?_⟩, fun g4 => absurd mb (by omega)⟩⟩
          · have p0 : hs s p = 0 := by omega
            have hba := b_add s (by omega) p (by omega) p0
            have hin := b_in c hc8 s hs2 p (by omega) p0
            have hpp : 1 ≤ 2 ^ p := Nat.one_le_two_pow
            refine sp_bits l (by omega) ?_
            refine sp_worthAt l hS hcc (fun a h1 h2 => a2 a (by omega) (by omega)) (pc_b s) hpc ?_
            rw [hba.1, Int.toNat_natCast]
            have hT := hTb (s + 2 ^ p) (by omega) hin
            have hw := hW (pc s) p (pc_b s) hpc
            have hvl : Wt x k c (pc s) p + v (7809 + (s + 2 ^ p)) = vl (Wt x k c) (fun u => v (7809 + u)) s p := rfl
            have hi1 : hv_I (vl (Wt x k c) (fun u => v (7809 + u)) s p) := by rw [← hvl]; exact ⟨by omega, by omega⟩
            rw [hvl]
            rw [if_neg (by omega)] at ih2'
            refine ⟨⟨Int.natCast_nonneg _, by omega⟩, hi1, fun g4 => ⟨⟨by omega, by omega⟩, ?_⟩, fun g4 => ⟨⟨by omega, by omega⟩, ?_⟩⟩
            · rw [if_pos g4] at ih2'; exact ih2'
            · rw [if_neg g4] at ih2'; exact ih2'
          · rw [if_pos (by omega)] at ih2'; exact ih2'
      exact inner 0 (Nat.zero_le _)
  have en : ((2 ^ c : Nat) : Int) - 1 = ((2 ^ c - 1 : Nat) : Int) := by omega
  have st := main (2 ^ c - 1, hh_upd y (7809 + (2 ^ c - 1)) 0) ⟨Nat.le_refl _, fun a ha hb => ?_, hh_upd_same _ _ _, fun u u1 u2 => by have : 2 ^ c - 1 ≤ u := u1; omega⟩
  rotate_left
  · show hh_upd y _ _ _ = _
    rw [hh_upd_ne (by omega)]
    exact F0 a ha hb
  rw [en, Int.toNat_natCast]
  have b1 : (((2 ^ c - 1 : Nat) : Int)) < 256 := by omega
  have b0 : 0 ≤ (((2 ^ c - 1 : Nat) : Int)) := Int.natCast_nonneg _
  dsimp only at st
  generalize ((2 ^ c - 1 : Nat) : Int) = z at b0 b1 st ⊢
  (repeat' (with_reducible refine And.intro ?_ ?_)) <;> first | exact st | exact trivial | omega | exact ⟨by omega, by omega⟩
