/-! a tenth: the ends that wear, the reference -/
theorem tn_wear (l : Launch) {At : Nat → hv_K hm} {Q : hm → Prop} (h162 : ∀ lo st x, hb_X10_tenth_162 l At Q lo st x → At 162 lo st x) {y : hm} {s : Nat} (hs : s < 2) (hc : y 6366 = 0 ∨ y 6366 = 1) (hg : ∀ e, e < 2 → 1 ≤ y (6363 + e) ∧ y (6363 + e) ≤ 100) (hw : 0 ≤ y 6097 ∧ y 6097 ≤ 20) (h : ∀ (e : Nat) (v : hm), e < 2 → ((s : Int) + y 6366 = e ∨ (s : Int) + y 6366 = e + 2) → v (6363 + e) = f_wear (y (6363 + e)) (y 6097) (y (6363 + (58 + s))) → (∀ a, a ≠ 6363 + e → v a = y a) → At 162 [some (Vr 5723), none, none, some (Vi (s + 1 : Nat)), none, none] [] v) : At 162 [some (Vr 5723), none, none, some (Vi s), none, none] [] y := by
  refine h162 _ _ _ ?_
  simp only [hb_X10_tenth_162, hb_X10_tenth_167, hb_X10_tenth_190, hb_X10_tenth_200, hb_X10_tenth_201, hb_X10_tenth_219, hb_X10_tenth_223, hb_X10_tenth_225, hc_iconst, hc_lconst, hc_iload, hc_lload, hc_aload, hc_istore, hc_astore, hc_lstore, hc_iinc, hc_dup, hc_dup2, hc_pop, hc_iadd, hc_isub, hc_imul, hc_iaddw, hc_isubw, hc_imulw, hc_inegw, hc_idiv, hc_irem, hc_ineg, hc_b2, hc_b1, hc_i2l, hc_l2i, hc_ladd, hc_l2, hc_lsh, hc_lcmp, hc_if, hc_icmp, hc_jump, hc_getI, hc_getR, hc_putI, hc_putZ, hc_xald, hc_iast, hc_bast, hc_zast, hc_aald, hc_alen, hc_copy, hc_gets, hc_getsI, hc_sald, hc_ldcs, hc_sval, hc_scod, hc_slen, hc_sbald, hc_callI, hc_callL, hc_callV, hc_max, hc_min, hc_abs, hc_ireturn, hc_zreturn, hc_creturn, hc_lreturn, hc_return, hc_none, hc_switch, hv_sw, hv_get, hv_set, hv_set2, hv_mask, hv_fr, hv_noL, hv_pop, hv_pk, hv_isO, hv_isS, hv_any, hv_w, hv_cat, he_nil, he_i, he_r, he_l, hv_repl_0, hv_repl_s, if_true, if_false, and_true, true_and, and_self, Nat.zero_add, Nat.add_zero, Nat.reduceAdd, Nat.reduceLeDiff, List.length_cons, List.length_nil, Int.toNat_natCast, Bool.false_eq_true, reduceIte, Int.toNat_zero, Int.toNat_one, Int.reduceToNat, or_true, true_or, Int.reduceEq, Int.reduceLT, Int.reduceLE, Int.reduceNeg, Int.reduceAdd, Int.reduceSub, Int.reduceMul, Nat.reduceMul, Nat.reduceEqDiff, implies_true, false_implies, true_implies, not_true_eq_false, not_false_eq_true, ne_eq, or_false, false_or, and_false, false_and, or_self, Classical.not_not, Int.zero_add, Int.add_zero, lc_0, lc_22, lc_730, lc_902, lc_1074, lc_1447, lc_1824, lc_2081, lc_2135, lc_4258, lc_5723, lr_0, lt_14, ll_14, lr_2, lr_4, lr_5, lr_6, lr_7, lr_8, lt_1820, ll_1820, lr_9, lt_1822, ll_1822, lr_10, lr_11, lr_12, lr_13, lr_22, lt_30, ll_30, lr_1824, lt_1825, ll_1825, lr_2081, lt_2086, ll_2086, lr_2082, lt_2102, ll_2102, lr_2083, lt_2118, ll_2118, lr_2135, lt_2137, ll_2137, lr_4263, lt_4265, ll_4265, lr_5725, lt_5755, ll_5755, lr_5726, lt_5763, ll_5763, lr_5727, lt_5771, ll_5771, lr_5728, lt_6091, ll_6091, lr_5729, lt_6227, ll_6227, lr_5731, lt_6363, ll_6363, lr_5732, lt_6733, ll_6733, lr_5743, lt_7433, ll_7433, lr_5744, lt_7435, ll_7435, lr_5745, lt_7805, ll_7805, lr_5746, lt_7809, ll_7809, lr_5747, lt_8065, ll_8065, lr_5748, lt_8165, ll_8165, lr_5750, lt_8265, ll_8265, lr_5751, lt_8267, ll_8267, lr_5752, lt_8539, ll_8539, lr_5753, lt_9279, ll_9279, lr_731, lt_733, ll_733, lr_732, lt_899, ll_899, lr_903, lt_905, ll_905, lr_904, lt_1071, ll_1071, lr_1074, lt_1086, ll_1086, lr_1082, lt_1088, ll_1088, lr_1088, lt_1090, ll_1090, lr_1089, lt_1098, ll_1098, lr_1083, lt_1106, ll_1106, lr_1106, lt_1108, ll_1108, lr_1107, lt_1116, ll_1116, lr_1084, lt_1124, ll_1124, lr_1124, lt_1126, ll_1126, lr_1125, lt_1134, ll_1134, lr_1085, lt_1142, ll_1142, lr_1142, lt_1147, ll_1147, lr_1143, lt_1207, ll_1207, lr_1144, lt_1267, ll_1267, lr_1145, lt_1327, ll_1327, lr_1146, lt_1387, ll_1387, lr_1447, lt_1459, ll_1459, lr_1455, lt_1461, ll_1461, lr_1461, lt_1463, ll_1463, lr_1462, lt_1471, ll_1471, lr_1456, lt_1479, ll_1479, lr_1479, lt_1481, ll_1481, lr_1480, lt_1489, ll_1489, lr_1457, lt_1497, ll_1497, lr_1497, lt_1499, ll_1499, lr_1498, lt_1507, ll_1507, lr_1458, lt_1515, ll_1515, lr_1515, lt_1520, ll_1520, lr_1516, lt_1580, ll_1580, lr_1517, lt_1640, ll_1640, lr_1518, lt_1700, ll_1700, lr_1519, lt_1760, ll_1760]
  refine ⟨fun c => absurd c (by omega), fun _ => ?_⟩
  refine sp_endOf l hs hc (fun e he hes => ?_)
  have g := hg e he
  have e58 : ((58 : Int) + s).toNat = 58 + s := by omega
  rw [Int.toNat_natCast, e58]
  refine ⟨⟨by omega, by omega⟩, ⟨by omega, by omega⟩, ⟨by omega, by omega⟩, fun c => ?_, fun c => ?_⟩
  · refine ⟨⟨by omega, by omega⟩, ?_⟩
    refine sp_endOf l hs hc (fun e2 he2 hes2 => ?_)
    have : e2 = e := by omega
    subst this
    rw [Int.toNat_natCast]
    refine ⟨fun c1 => ⟨⟨by omega, by omega⟩, ⟨by omega, by omega⟩, h e2 _ he hes ?_ (fun a ha => hh_upd_ne ha)⟩, fun c1 => absurd g.1 (by omega)⟩
    rw [hh_upd_same, Int.sub_zero]
    unfold f_wear
    rw [if_neg c]
  · refine ⟨by decide, ⟨by omega, by omega⟩, ?_⟩
    refine sp_endOf l hs hc (fun e2 he2 hes2 => ?_)
    have : e2 = e := by omega
    subst this
    rw [Int.toNat_natCast]
    refine ⟨fun c1 => ⟨⟨by omega, by omega⟩, ⟨by omega, by omega⟩, h e2 _ he hes ?_ (fun a ha => hh_upd_ne ha)⟩, fun c1 => ⟨⟨by omega, by omega⟩, ⟨by omega, by omega⟩, h e2 _ he hes ?_ (fun a ha => hh_upd_ne ha)⟩⟩
    · rw [hh_upd_same]
      unfold f_wear
      rw [if_pos c]; omega
    · rw [hh_upd_same]
      unfold f_wear
      rw [if_pos c]; omega
