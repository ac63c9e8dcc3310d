/-! several tenths, the class -/
theorem nb_off {v : Int} (h : -1 ≤ v ∧ v ≤ 1) : nb v = -1000000 ↔ v < 0 := by
  unfold nb; split <;> omega
/-- one tenth more, the class's memory and the rows together -/
theorem go_step (l : Launch) {t : Nat} (ht : IsTug t) {N : Int} {x z zp : hm} (hV : okV t N x z) (hE : eqN z zp) (hN : N ≤ 100000) (hw : zp 6369 < 0) {o0 o1 : Int} (h0 : 0 ≤ o0 ∧ o0 ≤ 3) (h1 : 0 ≤ o1 ∧ o1 ≤ 3) {Q : hm → Prop} (h : ∀ (w z' : hm), okV t (N + 1) w z' → eqN z' (tenH zp o0 o1) → (∀ a, ¬ (t ≤ a ∧ a < t + 373) → w a = x a) → Q w) : hm_V l m_X8_goTenth 4 [Vr t, Vr 730, Vi o0, Vi o1] x Q := by
  have htb : 1074 ≤ t ∧ t ≤ 5350 := by unfold IsTug at ht; omega
  have hO : OM 6091 zp := hE.symm.OM hV.2.2.2.2.2
  have hg0 : (0 : Int) ≤ z 6368 ∧ z 6368 ≤ N := (hV.2.2.1.2.2.1 hV.2.2.2.1).1.2.2.1
  obtain ⟨g, hg⟩ := Int.eq_ofNat_of_zero_le hg0.1
  refine sp_goTenth l ht hV hN h0 h1 hg (fun w hG => ?_)
  refine h w _ (okV_ten ht hV h0 h1 (by rw [hE.now (by omega) (by omega)]; exact hw) hg hG) ?_ hG.2.2.2.2.2
  refine eqN_ten hE hO (fun k hk => ?_) (fun k hk => ?_)
  · rw [mrg_ne (by omega), hG.2.2.2.2.2 _ (by omega), hV.1 _ (by omega)]
  · rw [mrg_now (by omega)]; exact tenH_now _ _ _ hk
theorem okV.won {t : Nat} (ht : IsTug t) {N : Int} {x z : hm} (hV : okV t N x z) : x (t + 5) = -1000000 ↔ z 6369 < 0 := by
  have htb : 1074 ≤ t ∧ t ≤ 5350 := by unfold IsTug at ht; omega
  obtain ⟨v1, v2, v3, v4, v5, v6⟩ := hV
  have r4 : z (t + 5) = nb (z 6369) := (v2.2.2 v4).1.2.2.2.1
  have b : -1 ≤ z 6369 ∧ z 6369 ≤ 1 := (v3.2.2.1 v4).1.2.2.2.1
  rw [← v1 _ (by omega), r4]
  exact nb_off b
theorem sp_goByRules (l : Launch) {t : Nat} (ht : IsTug t) {N : Int} {x z : hm} (hV : okV t N x z) {n : Nat} (hN : N + n ≤ 100000) {Q : Int → hm → Prop} (h : ∀ (w z' : hm), okV t (N + n) w z' → eqN z' (goF chR n 0 z).2 → (∀ a, ¬ (t ≤ a ∧ a < t + 373) → w a = x a) → Q (goF chR n 0 z).1 w) : hm_I l m_X8_goByRules 5 [Vr t, Vr 730, Vi n] x Q := by
  have hN0 : 0 ≤ N := by have := (hV.2.2.1.2.2.1 hV.2.2.2.1).1.2.2.1; omega
  refine hr_X8_goByRules l (Nat.le_of_ble_eq_true rfl) ?_
  intro At h2
  simp only [hb_X8_goByRules_0, hc_iconst, hc_lconst, hc_iload, hc_lload, hc_aload, hc_istore, hc_astore, hc_lstore, hc_iinc, hc_dup, hc_dup2, hc_pop, hc_iadd, hc_isub, hc_imul, hc_iaddw, hc_isubw, hc_imulw, hc_inegw, hc_idiv, hc_irem, hc_ineg, hc_b2, hc_b1, hc_i2l, hc_l2i, hc_ladd, hc_l2, hc_lsh, hc_lcmp, hc_if, hc_icmp, hc_jump, hc_getI, hc_getR, hc_putI, hc_putZ, hc_xald, hc_iast, hc_bast, hc_zast, hc_aald, hc_alen, hc_copy, hc_gets, hc_getsI, hc_sald, hc_ldcs, hc_sval, hc_scod, hc_slen, hc_sbald, hc_callI, hc_callL, hc_callV, hc_max, hc_min, hc_abs, hc_ireturn, hc_zreturn, hc_creturn, hc_lreturn, hc_return, hc_none, hc_switch, hv_sw, hv_get, hv_set, hv_set2, hv_mask, hv_fr, hv_noL, hv_pop, hv_pk, hv_isO, hv_isS, hv_any, hv_w, hv_cat, he_nil, he_i, he_r, he_l, hv_repl_0, hv_repl_s, if_true, if_false, and_true, true_and, and_self, Nat.zero_add, Nat.add_zero, Nat.reduceAdd, Nat.reduceLeDiff, List.length_cons, List.length_nil, Int.toNat_natCast, Bool.false_eq_true, reduceIte, Int.toNat_zero, Int.toNat_one, Int.reduceToNat, or_true, true_or, Int.reduceEq, Int.reduceLT, Int.reduceLE, Int.reduceNeg, Int.reduceAdd, Int.reduceSub, Int.reduceMul, Nat.reduceMul, Nat.reduceEqDiff, implies_true, false_implies, true_implies, not_true_eq_false, not_false_eq_true, ne_eq, or_false, false_or, and_false, false_and, or_self, Classical.not_not, Int.zero_add, Int.add_zero, lc_0, lc_22, lc_730, lc_902, lc_1074, lc_1447, lc_1824, lc_2081, lc_2135, lc_4258, lc_5723, lr_0, lt_14, ll_14, lr_2, lr_4, lr_5, lr_6, lr_7, lr_8, lt_1820, ll_1820, lr_9, lt_1822, ll_1822, lr_10, lr_11, lr_12, lr_13, lr_22, lt_30, ll_30, lr_1824, lt_1825, ll_1825, lr_2081, lt_2086, ll_2086, lr_2082, lt_2102, ll_2102, lr_2083, lt_2118, ll_2118, lr_2135, lt_2137, ll_2137, lr_4263, lt_4265, ll_4265, lr_5725, lt_5755, ll_5755, lr_5726, lt_5763, ll_5763, lr_5727, lt_5771, ll_5771, lr_5728, lt_6091, ll_6091, lr_5729, lt_6227, ll_6227, lr_5731, lt_6363, ll_6363, lr_5732, lt_6733, ll_6733, lr_5743, lt_7433, ll_7433, lr_5744, lt_7435, ll_7435, lr_5745, lt_7805, ll_7805, lr_5746, lt_7809, ll_7809, lr_5747, lt_8065, ll_8065, lr_5748, lt_8165, ll_8165, lr_5750, lt_8265, ll_8265, lr_5751, lt_8267, ll_8267, lr_5752, lt_8539, ll_8539, lr_5753, lt_9279, ll_9279, lr_731, lt_733, ll_733, lr_732, lt_899, ll_899, lr_903, lt_905, ll_905, lr_904, lt_1071, ll_1071, lr_1074, lt_1086, ll_1086, lr_1082, lt_1088, ll_1088, lr_1088, lt_1090, ll_1090, lr_1089, lt_1098, ll_1098, lr_1083, lt_1106, ll_1106, lr_1106, lt_1108, ll_1108, lr_1107, lt_1116, ll_1116, lr_1084, lt_1124, ll_1124, lr_1124, lt_1126, ll_1126, lr_1125, lt_1134, ll_1134, lr_1085, lt_1142, ll_1142, lr_1142, lt_1147, ll_1147, lr_1143, lt_1207, ll_1207, lr_1144, lt_1267, ll_1267, lr_1145, lt_1327, ll_1327, lr_1146, lt_1387, ll_1387, lr_1447, lt_1459, ll_1459, lr_1455, lt_1461, ll_1461, lr_1461, lt_1463, ll_1463, lr_1462, lt_1471, ll_1471, lr_1456, lt_1479, ll_1479, lr_1479, lt_1481, ll_1481, lr_1480, lt_1489, ll_1489, lr_1457, lt_1497, ll_1497, lr_1497, lt_1499, ll_1499, lr_1498, lt_1507, ll_1507, lr_1458, lt_1515, ll_1515, lr_1515, lt_1520, ll_1520, lr_1516, lt_1580, ll_1580, lr_1517, lt_1640, ll_1640, lr_1518, lt_1700, ll_1700, lr_1519, lt_1760, ll_1760]
  have main : ∀ q : Nat × hm × hm × hm, (q.1 ≤ n ∧ okV t (N + q.1) q.2.1 q.2.2.1 ∧ eqN q.2.2.1 q.2.2.2 ∧ (q.1 + (goF chR (n - q.1) q.1 q.2.2.2).1 = (goF chR n 0 z).1 ∧ (goF chR (n - q.1) q.1 q.2.2.2).2 = (goF chR n 0 z).2) ∧ ∀ a, ¬ (t ≤ a ∧ a < t + 373) → q.2.1 a = x a) → At 2 [some (Vr t), some (Vr 730), some (Vi n), some (Vi q.1)] [] q.2.1 := by
    refine lp_m (fun q : Nat × hm × hm × hm => n - q.1) ?_
    rintro ⟨k, v, zv, zp⟩ ⟨a0, a1, a2, ⟨a5, a6⟩, a7⟩ ih
    dsimp only at a0 a1 a2 a5 a6 a7
    have hO : OM 6091 zp := a2.symm.OM a1.2.2.2.2.2
    have ewon := a1.won ht
    rw [a2.now (a := 6369) (by omega) (by omega)] at ewon
    refine h2 _ _ _ ?_
    simp only [hb_X8_goByRules_39, hb_X8_goByRules_16, hb_X8_goByRules_7, hb_X8_goByRules_2, hb_X8_goByRules_0, hc_iconst, hc_lconst, hc_iload, hc_lload, hc_aload, hc_istore, hc_astore, hc_lstore, hc_iinc, hc_dup, hc_dup2, hc_pop, hc_iadd, hc_isub, hc_imul, hc_iaddw, hc_isubw, hc_imulw, hc_inegw, hc_idiv, hc_irem, hc_ineg, hc_b2, hc_b1, hc_i2l, hc_l2i, hc_ladd, hc_l2, hc_lsh, hc_lcmp, hc_if, hc_icmp, hc_jump, hc_getI, hc_getR, hc_putI, hc_putZ, hc_xald, hc_iast, hc_bast, hc_zast, hc_aald, hc_alen, hc_copy, hc_gets, hc_getsI, hc_sald, hc_ldcs, hc_sval, hc_scod, hc_slen, hc_sbald, hc_callI, hc_callL, hc_callV, hc_max, hc_min, hc_abs, hc_ireturn, hc_zreturn, hc_creturn, hc_lreturn, hc_return, hc_none, hc_switch, hv_sw, hv_get, hv_set, hv_set2, hv_mask, hv_fr, hv_noL, hv_pop, hv_pk, hv_isO, hv_isS, hv_any, hv_w, hv_cat, he_nil, he_i, he_r, he_l, hv_repl_0, hv_repl_s, if_true, if_false, and_true, true_and, and_self, Nat.zero_add, Nat.add_zero, Nat.reduceAdd, Nat.reduceLeDiff, List.length_cons, List.length_nil, Int.toNat_natCast, Bool.false_eq_true, reduceIte, Int.toNat_zero, Int.toNat_one, Int.reduceToNat, or_true, true_or, Int.reduceEq, Int.reduceLT, Int.reduceLE, Int.reduceNeg, Int.reduceAdd, Int.reduceSub, Int.reduceMul, Nat.reduceMul, Nat.reduceEqDiff, implies_true, false_implies, true_implies, not_true_eq_false, not_false_eq_true, ne_eq, or_false, false_or, and_false, false_and, or_self, Classical.not_not, Int.zero_add, Int.add_zero, lc_0, lc_22, lc_730, lc_902, lc_1074, lc_1447, lc_1824, lc_2081, lc_2135, lc_4258, lc_5723, lr_0, lt_14, ll_14, lr_2, lr_4, lr_5, lr_6, lr_7, lr_8, lt_1820, ll_1820, lr_9, lt_1822, ll_1822, lr_10, lr_11, lr_12, lr_13, lr_22, lt_30, ll_30, lr_1824, lt_1825, ll_1825, lr_2081, lt_2086, ll_2086, lr_2082, lt_2102, ll_2102, lr_2083, lt_2118, ll_2118, lr_2135, lt_2137, ll_2137, lr_4263, lt_4265, ll_4265, lr_5725, lt_5755, ll_5755, lr_5726, lt_5763, ll_5763, lr_5727, lt_5771, ll_5771, lr_5728, lt_6091, ll_6091, lr_5729, lt_6227, ll_6227, lr_5731, lt_6363, ll_6363, lr_5732, lt_6733, ll_6733, lr_5743, lt_7433, ll_7433, lr_5744, lt_7435, ll_7435, lr_5745, lt_7805, ll_7805, lr_5746, lt_7809, ll_7809, lr_5747, lt_8065, ll_8065, lr_5748, lt_8165, ll_8165, lr_5750, lt_8265, ll_8265, lr_5751, lt_8267, ll_8267, lr_5752, lt_8539, ll_8539, lr_5753, lt_9279, ll_9279, lr_731, lt_733, ll_733, lr_732, lt_899, ll_899, lr_903, lt_905, ll_905, lr_904, lt_1071, ll_1071, lr_1074, lt_1086, ll_1086, lr_1082, lt_1088, ll_1088, lr_1088, lt_1090, ll_1090, lr_1089, lt_1098, ll_1098, lr_1083, lt_1106, ll_1106, lr_1106, lt_1108, ll_1108, lr_1107, lt_1116, ll_1116, lr_1084, lt_1124, ll_1124, lr_1124, lt_1126, ll_1126, lr_1125, lt_1134, ll_1134, lr_1085, lt_1142, ll_1142, lr_1142, lt_1147, ll_1147, lr_1143, lt_1207, ll_1207, lr_1144, lt_1267, ll_1267, lr_1145, lt_1327, ll_1327, lr_1146, lt_1387, ll_1387, lr_1447, lt_1459, ll_1459, lr_1455, lt_1461, ll_1461, lr_1461, lt_1463, ll_1463, lr_1462, lt_1471, ll_1471, lr_1456, lt_1479, ll_1479, lr_1479, lt_1481, ll_1481, lr_1480, lt_1489, ll_1489, lr_1457, lt_1497, ll_1497, lr_1497, lt_1499, ll_1499, lr_1498, lt_1507, ll_1507, lr_1458, lt_1515, ll_1515, lr_1515, lt_1520, ll_1520, lr_1516, lt_1580, ll_1580, lr_1517, lt_1640, ll_1640, lr_1518, lt_1700, ll_1700, lr_1519, lt_1760, ll_1760, tg_cls ht, tg_rf0 ht, tg_rf8 ht, tg_rf9 ht, tg_rf10 ht, tg_rf11 ht, tg_t12 ht, tg_l12 ht, tg_t14 ht, tg_l14 ht, tg_r14 ht, tg_t16 ht, tg_l16 ht, tg_r15 ht, tg_t24 ht, tg_l24 ht, tg_t32 ht, tg_l32 ht, tg_r32 ht, tg_t34 ht, tg_l34 ht, tg_r33 ht, tg_t42 ht, tg_l42 ht, tg_t50 ht, tg_l50 ht, tg_r50 ht, tg_t52 ht, tg_l52 ht, tg_r51 ht, tg_t60 ht, tg_l60 ht, tg_t68 ht, tg_l68 ht, tg_r68 ht, tg_t73 ht, tg_l73 ht, tg_r69 ht, tg_t133 ht, tg_l133 ht, tg_r70 ht, tg_t193 ht, tg_l193 ht, tg_r71 ht, tg_t253 ht, tg_l253 ht, tg_r72 ht, tg_t313 ht, tg_l313 ht]
    have stop : goF chR (n - k) k zp = (0, zp) → Q k v := fun c => by
      rw [c] at a5 a6
      have := h v zv (okV_le (by omega) a1) (by rw [← a6]; exact a2) a7
      rw [← a5] at this
      exact this
    have go : k < n → zp 6369 < 0 → hm_I l m_X8_orderByRules 3 [Vr t, Vr 730, Vi 0] v (fun r y => hm_I l m_X8_orderByRules 3 [Vr t, Vr 730, Vi 1] y (fun r2 y2 => hm_V l m_X8_goTenth 4 [Vr t, Vr 730, Vi r, Vi r2] y2 (fun y3 => hv_I ((k : Int) + 1) ∧ At 2 [some (Vr t), some (Vr 730), some (Vi n), some (Vi ((k : Int) + 1))] [] y3))) := fun g g2 => by
      have b0 := ruleF_b hO (show 0 < 2 by omega)
      have b1 := ruleF_b hO (show 1 < 2 by omega)
      rw [show n - k = (n - (k + 1)) + 1 by omega, goF_on chR g2] at a5 a6
      refine sp_orderByRules l ht a1 (s := 0) (by omega) ?_
      refine sp_orderByRules l ht a1 (s := 1) (by omega) ?_
      rw [ruleF_c a2 hO (show 0 < 2 by omega), ruleF_c a2 hO (show 1 < 2 by omega)]
      refine go_step l ht a1 a2 (by omega) g2 b0 b1 (fun w z' w1 w2 w3 => ?_)
      refine ⟨⟨by omega, by omega⟩, ?_⟩
      refine ih (k + 1, w, z', tenH zp (ruleF zp 0) (ruleF zp 1)) ⟨by show k + 1 ≤ n; omega, ?_, w2, ⟨?_, a6⟩, fun a c1 => by show w a = x a; rw [w3 a c1]; exact a7 a c1⟩ (by show n - (k + 1) < n - k; omega)
      · show okV t (N + ((k + 1 : Nat) : Int)) w z'
        exact okV_le (by omega) w1
      · show k + 1 + (goF chR (n - (k + 1)) (k + 1) (tenH zp (ruleF zp 0) (ruleF zp 1))).1 = _
        rw [← a5]
        show _ = k + ((goF chR (n - (k + 1)) (k + 1) (tenH zp (ruleF zp 0) (ruleF zp 1))).1 + 1)
        omega
    refine ⟨fun g => ?_, fun g => ⟨fun g2 => ?_, fun g2 => ?_⟩⟩
    · exact stop (by rw [show n - k = 0 by omega]; rfl)
    · exact stop (goF_off chR (fun c => g2 (ewon.mpr c)))
    · exact go (by omega) (ewon.mp g2)
  exact main (0, x, z, z) ⟨Nat.zero_le _, okV_le (by show N ≤ N + ((0 : Nat) : Int); omega) hV, ⟨fun _ _ => rfl, fun _ _ => rfl⟩, ⟨by rw [Nat.zero_add, Nat.sub_zero], by rw [Nat.sub_zero]⟩, fun _ _ => rfl⟩
