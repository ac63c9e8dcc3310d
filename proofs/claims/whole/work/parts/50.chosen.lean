/-! chosen, the reference and both -/
def okCh (w n v : Int) : Prop := (0 ≤ w ∧ w ≤ 2000) ∧ (1 ≤ n ∧ n ≤ 16) ∧ 0 ≤ v ∧ v ≤ 1
theorem mo_chosen (l : Launch) {x : hm} {w n v : Int} {Q : Int → hm → Prop} (hbad : ¬ okCh w n v → ∀ y : hm, (∀ a, a ≠ 5723 → y a = x a) → Q (-1000001) y) (hst : okCh w n v → x 5730 = 0 → ∀ y : hm, (∀ a, a ≠ 5723 → y a = x a) → Q (-1000002) y) {c0 c1 : Nat} (hK : ¬ x 5730 = 0 → okK x c0 c1)
    (hok : okCh w n v → ¬ x 5730 = 0 → ∀ y : hm, (∀ a, a ≠ 5723 → y a = x a) → Q (if v = 0 then (scan (cw x 0 c0) (cw x 1 c0) (c0 + c1) w n (0, 0) 0 (2 ^ (c0 + c1))).1 else (scan (cw x 0 c0) (cw x 1 c0) (c0 + c1) w n (0, 0) 0 (2 ^ (c0 + c1))).2) y) : hm_I l m_X10_chosen 2 [Vr 5723, Vi w, Vi n, Vi v] x Q := by
  have F : ∀ a, a ≠ 5723 → hh_upd x 5723 0 a = x a := fun a ha => hh_upd_ne ha
  unfold okCh at hbad hst hok
  refine hr_X10_chosen l (Nat.le_of_ble_eq_true rfl) ?_
  intro At h80 h101
  simp only [hb_X10_chosen_0, hb_X10_chosen_17, hb_X10_chosen_29, hb_X10_chosen_39, hb_X10_chosen_42, hb_X10_chosen_49, hb_X10_chosen_52, hc_iconst, hc_lconst, hc_iload, hc_lload, hc_aload, hc_istore, hc_astore, hc_lstore, hc_iinc, hc_dup, hc_dup2, hc_pop, hc_iadd, hc_isub, hc_imul, hc_iaddw, hc_isubw, hc_imulw, hc_inegw, hc_idiv, hc_irem, hc_ineg, hc_b2, hc_b1, hc_i2l, hc_l2i, hc_ladd, hc_l2, hc_lsh, hc_lcmp, hc_if, hc_icmp, hc_jump, hc_getI, hc_getR, hc_putI, hc_putZ, hc_xald, hc_iast, hc_bast, hc_zast, hc_aald, hc_alen, hc_copy, hc_gets, hc_getsI, hc_sald, hc_ldcs, hc_sval, hc_scod, hc_slen, hc_sbald, hc_callI, hc_callL, hc_callV, hc_max, hc_min, hc_abs, hc_ireturn, hc_zreturn, hc_creturn, hc_lreturn, hc_return, hc_none, hc_switch, hv_sw, hv_get, hv_set, hv_set2, hv_mask, hv_fr, hv_noL, hv_pop, hv_pk, hv_isO, hv_isS, hv_any, hv_w, hv_cat, he_nil, he_i, he_r, he_l, hv_repl_0, hv_repl_s, if_true, if_false, and_true, true_and, and_self, Nat.zero_add, Nat.add_zero, Nat.reduceAdd, Nat.reduceLeDiff, List.length_cons, List.length_nil, Int.toNat_natCast, Bool.false_eq_true, reduceIte, Int.toNat_zero, Int.toNat_one, Int.reduceToNat, or_true, true_or, Int.reduceEq, Int.reduceLT, Int.reduceLE, Int.reduceNeg, Int.reduceAdd, Int.reduceSub, Int.reduceMul, Nat.reduceMul, Nat.reduceEqDiff, implies_true, false_implies, true_implies, not_true_eq_false, not_false_eq_true, ne_eq, or_false, false_or, and_false, false_and, or_self, Classical.not_not, Int.zero_add, Int.add_zero, lc_0, lc_22, lc_730, lc_902, lc_1074, lc_1447, lc_1824, lc_2081, lc_2135, lc_4258, lc_5723, lr_0, lt_14, ll_14, lr_2, lr_4, lr_5, lr_6, lr_7, lr_8, lt_1820, ll_1820, lr_9, lt_1822, ll_1822, lr_10, lr_11, lr_12, lr_13, lr_22, lt_30, ll_30, lr_1824, lt_1825, ll_1825, lr_2081, lt_2086, ll_2086, lr_2082, lt_2102, ll_2102, lr_2083, lt_2118, ll_2118, lr_2135, lt_2137, ll_2137, lr_4263, lt_4265, ll_4265, lr_5725, lt_5755, ll_5755, lr_5726, lt_5763, ll_5763, lr_5727, lt_5771, ll_5771, lr_5728, lt_6091, ll_6091, lr_5729, lt_6227, ll_6227, lr_5731, lt_6363, ll_6363, lr_5732, lt_6733, ll_6733, lr_5743, lt_7433, ll_7433, lr_5744, lt_7435, ll_7435, lr_5745, lt_7805, ll_7805, lr_5746, lt_7809, ll_7809, lr_5747, lt_8065, ll_8065, lr_5748, lt_8165, ll_8165, lr_5750, lt_8265, ll_8265, lr_5751, lt_8267, ll_8267, lr_5752, lt_8539, ll_8539, lr_5753, lt_9279, ll_9279, lr_731, lt_733, ll_733, lr_732, lt_899, ll_899, lr_903, lt_905, ll_905, lr_904, lt_1071, ll_1071, lr_1074, lt_1086, ll_1086, lr_1082, lt_1088, ll_1088, lr_1088, lt_1090, ll_1090, lr_1089, lt_1098, ll_1098, lr_1083, lt_1106, ll_1106, lr_1106, lt_1108, ll_1108, lr_1107, lt_1116, ll_1116, lr_1084, lt_1124, ll_1124, lr_1124, lt_1126, ll_1126, lr_1125, lt_1134, ll_1134, lr_1085, lt_1142, ll_1142, lr_1142, lt_1147, ll_1147, lr_1143, lt_1207, ll_1207, lr_1144, lt_1267, ll_1267, lr_1145, lt_1327, ll_1327, lr_1146, lt_1387, ll_1387, lr_1447, lt_1459, ll_1459, lr_1455, lt_1461, ll_1461, lr_1461, lt_1463, ll_1463, lr_1462, lt_1471, ll_1471, lr_1456, lt_1479, ll_1479, lr_1479, lt_1481, ll_1481, lr_1480, lt_1489, ll_1489, lr_1457, lt_1497, ll_1497, lr_1497, lt_1499, ll_1499, lr_1498, lt_1507, ll_1507, lr_1458, lt_1515, ll_1515, lr_1515, lt_1520, ll_1520, lr_1516, lt_1580, ll_1580, lr_1517, lt_1640, ll_1640, lr_1518, lt_1700, ll_1700, lr_1519, lt_1760, ll_1760]
  generalize hh_upd x 5723 0 = y at F ⊢
  refine sp_in_a l (fun a0 a1 => ?_) (fun g => hbad (by omega) _ F)
  refine sp_in_a l (fun b0 b1 => ?_) (fun g => hbad (by omega) _ F)
  refine sp_in_b l (fun v0 v1 => ?_) (fun g => hbad (by omega) _ F)
  rw [F 5730 (by omega), F 6091 (by omega), F 6092 (by omega)]
  refine ⟨fun c => ?_, fun c => hst (by omega) c _ F⟩
  have hok := hok (by omega) c y F
  obtain ⟨k1, k2, k3, k4, k5, k6, k7⟩ := hK c
  have cwb : ∀ p, p < c0 + c1 → (0 ≤ cw x 0 c0 p ∧ cw x 0 c0 p ≤ 200) ∧ 0 ≤ cw x 1 c0 p ∧ cw x 1 c0 p ≤ 200 := fun p hp => by
    unfold cw
    by_cases c : p < c0
    · rw [if_pos c, if_pos c]
      exact (k7 0 p 0 (by omega) (by rw [show 6091 + 0 = 6091 from rfl, k5]; omega) (by omega)).2
    · rw [if_neg c, if_neg c]
      exact (k7 1 (p - c0) 0 (by omega) (by rw [show 6091 + 1 = 6092 from rfl, k6]; omega) (by omega)).2
  rw [k5, k6]
  have eA : ((c0 : Int) + c1) = ((c0 + c1 : Nat) : Int) := by omega
  rw [eA]
  generalize hA : c0 + c1 = A at hok cwb ⊢
  have hA16 : A ≤ 16 := by omega
  have hpA : ∀ p, p ≤ 16 → 2 ^ p ≤ 65536 := by decide
  have hpow := hpA A hA16
  have hpos := Nat.two_pow_pos A
  have swb : ∀ (f : Nat → Int), (∀ p, p < A → 0 ≤ f p ∧ f p ≤ 200) → ∀ s p, p ≤ A → 0 ≤ sw f s p ∧ sw f s p ≤ 200 * p := by
    intro f hf s p
    induction p with
    | zero => intro _; show (0 : Int) ≤ 0 ∧ (0 : Int) ≤ 200 * ((0 : Nat) : Int); omega
    | succ p ih =>
      intro hp
      have := ih (by omega)
      have := hf p (by omega)
      rw [sw_s]
      split <;> omega
  have outer : ∀ s : Nat, (1 ≤ s ∧ s ≤ 2 ^ A) → At 80 [some (Vr 5723), some (Vi w), some (Vi n), some (Vi v), some (Vi c0), some (Vi A), some (Vi (scan (cw x 0 c0) (cw x 1 c0) A w n (0, 0) 0 s).1), some (Vi (scan (cw x 0 c0) (cw x 1 c0) A w n (0, 0) 0 s).2), some (Vi s), none, none, none, none] [] y := by
    refine lp_m (fun s : Nat => 2 ^ A - s) ?_
    rintro s ⟨s1, s2⟩ ih
    refine h80 _ _ _ ?_
    simp only [hb_X10_chosen_80, hb_X10_chosen_89, hb_X10_chosen_229, hb_X10_chosen_233, hb_X10_chosen_238, hb_X10_chosen_240, hc_iconst, hc_lconst, hc_iload, hc_lload, hc_aload, hc_istore, hc_astore, hc_lstore, hc_iinc, hc_dup, hc_dup2, hc_pop, hc_iadd, hc_isub, hc_imul, hc_iaddw, hc_isubw, hc_imulw, hc_inegw, hc_idiv, hc_irem, hc_ineg, hc_b2, hc_b1, hc_i2l, hc_l2i, hc_ladd, hc_l2, hc_lsh, hc_lcmp, hc_if, hc_icmp, hc_jump, hc_getI, hc_getR, hc_putI, hc_putZ, hc_xald, hc_iast, hc_bast, hc_zast, hc_aald, hc_alen, hc_copy, hc_gets, hc_getsI, hc_sald, hc_ldcs, hc_sval, hc_scod, hc_slen, hc_sbald, hc_callI, hc_callL, hc_callV, hc_max, hc_min, hc_abs, hc_ireturn, hc_zreturn, hc_creturn, hc_lreturn, hc_return, hc_none, hc_switch, hv_sw, hv_get, hv_set, hv_set2, hv_mask, hv_fr, hv_noL, hv_pop, hv_pk, hv_isO, hv_isS, hv_any, hv_w, hv_cat, he_nil, he_i, he_r, he_l, hv_repl_0, hv_repl_s, if_true, if_false, and_true, true_and, and_self, Nat.zero_add, Nat.add_zero, Nat.reduceAdd, Nat.reduceLeDiff, List.length_cons, List.length_nil, Int.toNat_natCast, Bool.false_eq_true, reduceIte, Int.toNat_zero, Int.toNat_one, Int.reduceToNat, or_true, true_or, Int.reduceEq, Int.reduceLT, Int.reduceLE, Int.reduceNeg, Int.reduceAdd, Int.reduceSub, Int.reduceMul, Nat.reduceMul, Nat.reduceEqDiff, implies_true, false_implies, true_implies, not_true_eq_false, not_false_eq_true, ne_eq, or_false, false_or, and_false, false_and, or_self, Classical.not_not, Int.zero_add, Int.add_zero, lc_0, lc_22, lc_730, lc_902, lc_1074, lc_1447, lc_1824, lc_2081, lc_2135, lc_4258, lc_5723, lr_0, lt_14, ll_14, lr_2, lr_4, lr_5, lr_6, lr_7, lr_8, lt_1820, ll_1820, lr_9, lt_1822, ll_1822, lr_10, lr_11, lr_12, lr_13, lr_22, lt_30, ll_30, lr_1824, lt_1825, ll_1825, lr_2081, lt_2086, ll_2086, lr_2082, lt_2102, ll_2102, lr_2083, lt_2118, ll_2118, lr_2135, lt_2137, ll_2137, lr_4263, lt_4265, ll_4265, lr_5725, lt_5755, ll_5755, lr_5726, lt_5763, ll_5763, lr_5727, lt_5771, ll_5771, lr_5728, lt_6091, ll_6091, lr_5729, lt_6227, ll_6227, lr_5731, lt_6363, ll_6363, lr_5732, lt_6733, ll_6733, lr_5743, lt_7433, ll_7433, lr_5744, lt_7435, ll_7435, lr_5745, lt_7805, ll_7805, lr_5746, lt_7809, ll_7809, lr_5747, lt_8065, ll_8065, lr_5748, lt_8165, ll_8165, lr_5750, lt_8265, ll_8265, lr_5751, lt_8267, ll_8267, lr_5752, lt_8539, ll_8539, lr_5753, lt_9279, ll_9279, lr_731, lt_733, ll_733, lr_732, lt_899, ll_899, lr_903, lt_905, ll_905, lr_904, lt_1071, ll_1071, lr_1074, lt_1086, ll_1086, lr_1082, lt_1088, ll_1088, lr_1088, lt_1090, ll_1090, lr_1089, lt_1098, ll_1098, lr_1083, lt_1106, ll_1106, lr_1106, lt_1108, ll_1108, lr_1107, lt_1116, ll_1116, lr_1084, lt_1124, ll_1124, lr_1124, lt_1126, ll_1126, lr_1125, lt_1134, ll_1134, lr_1085, lt_1142, ll_1142, lr_1142, lt_1147, ll_1147, lr_1143, lt_1207, ll_1207, lr_1144, lt_1267, ll_1267, lr_1145, lt_1327, ll_1327, lr_1146, lt_1387, ll_1387, lr_1447, lt_1459, ll_1459, lr_1455, lt_1461, ll_1461, lr_1461, lt_1463, ll_1463, lr_1462, lt_1471, ll_1471, lr_1456, lt_1479, ll_1479, lr_1479, lt_1481, ll_1481, lr_1480, lt_1489, ll_1489, lr_1457, lt_1497, ll_1497, lr_1497, lt_1499, ll_1499, lr_1498, lt_1507, ll_1507, lr_1458, lt_1515, ll_1515, lr_1515, lt_1520, ll_1520, lr_1516, lt_1580, ll_1580, lr_1517, lt_1640, ll_1640, lr_1518, lt_1700, ll_1700, lr_1519, lt_1760, ll_1760]
    rw [n_pow A hA16]
    refine ⟨fun g => ?_, fun g => ?_⟩
    · have : s = 2 ^ A := by omega
      subst this
      refine ⟨fun c => ?_, fun c => ?_⟩
      · rw [if_neg c] at hok; exact hok
      · rw [if_pos c] at hok; exact hok
    · have hs : s < 2 ^ A := by omega
      have ih' := ih (s + 1) ⟨by omega, by omega⟩ (by show 2 ^ A - (s + 1) < 2 ^ A - s; omega)
      rw [scan_s, Nat.zero_add] at ih'
      generalize scan (cw x 0 c0) (cw x 1 c0) A w n (0, 0) 0 s = B at ih' ⊢
      have inner : ∀ p : Nat, p ≤ A → At 101 [some (Vr 5723), some (Vi w), some (Vi n), some (Vi v), some (Vi c0), some (Vi A), some (Vi B.1), some (Vi B.2), some (Vi s), some (Vi (sw (cw x 0 c0) s p)), some (Vi (sw (cw x 1 c0) s p)), some (Vi (sw (fun _ => 1) s p)), some (Vi p)] [] y := by
        refine lp_m (fun p : Nat => A - p) ?_
        intro p hp ih2
        have w1 := swb (cw x 0 c0) (fun p hp => (cwb p hp).1) s p hp
        have w2 := swb (cw x 1 c0) (fun p hp => (cwb p hp).2) s p hp
        have w3 := swb (fun _ => 1) (fun _ _ => by decide) s p hp
        refine h101 _ _ _ ?_
        simp only [hb_X10_chosen_101, hb_X10_chosen_108, hb_X10_chosen_119, hb_X10_chosen_128, hb_X10_chosen_139, hb_X10_chosen_150, hb_X10_chosen_162, hb_X10_chosen_173, hb_X10_chosen_184, hb_X10_chosen_190, hb_X10_chosen_196, hb_X10_chosen_202, hb_X10_chosen_208, hb_X10_chosen_215, hb_X10_chosen_223, hc_iconst, hc_lconst, hc_iload, hc_lload, hc_aload, hc_istore, hc_astore, hc_lstore, hc_iinc, hc_dup, hc_dup2, hc_pop, hc_iadd, hc_isub, hc_imul, hc_iaddw, hc_isubw, hc_imulw, hc_inegw, hc_idiv, hc_irem, hc_ineg, hc_b2, hc_b1, hc_i2l, hc_l2i, hc_ladd, hc_l2, hc_lsh, hc_lcmp, hc_if, hc_icmp, hc_jump, hc_getI, hc_getR, hc_putI, hc_putZ, hc_xald, hc_iast, hc_bast, hc_zast, hc_aald, hc_alen, hc_copy, hc_gets, hc_getsI, hc_sald, hc_ldcs, hc_sval, hc_scod, hc_slen, hc_sbald, hc_callI, hc_callL, hc_callV, hc_max, hc_min, hc_abs, hc_ireturn, hc_zreturn, hc_creturn, hc_lreturn, hc_return, hc_none, hc_switch, hv_sw, hv_get, hv_set, hv_set2, hv_mask, hv_fr, hv_noL, hv_pop, hv_pk, hv_isO, hv_isS, hv_any, hv_w, hv_cat, he_nil, he_i, he_r, he_l, hv_repl_0, hv_repl_s, if_true, if_false, and_true, true_and, and_self, Nat.zero_add, Nat.add_zero, Nat.reduceAdd, Nat.reduceLeDiff, List.length_cons, List.length_nil, Int.toNat_natCast, Bool.false_eq_true, reduceIte, Int.toNat_zero, Int.toNat_one, Int.reduceToNat, or_true, true_or, Int.reduceEq, Int.reduceLT, Int.reduceLE, Int.reduceNeg, Int.reduceAdd, Int.reduceSub, Int.reduceMul, Nat.reduceMul, Nat.reduceEqDiff, implies_true, false_implies, true_implies, not_true_eq_false, not_false_eq_true, ne_eq, or_false, false_or, and_false, false_and, or_self, Classical.not_not, Int.zero_add, Int.add_zero, lc_0, lc_22, lc_730, lc_902, lc_1074, lc_1447, lc_1824, lc_2081, lc_2135, lc_4258, lc_5723, lr_0, lt_14, ll_14, lr_2, lr_4, lr_5, lr_6, lr_7, lr_8, lt_1820, ll_1820, lr_9, lt_1822, ll_1822, lr_10, lr_11, lr_12, lr_13, lr_22, lt_30, ll_30, lr_1824, lt_1825, ll_1825, lr_2081, lt_2086, ll_2086, lr_2082, lt_2102, ll_2102, lr_2083, lt_2118, ll_2118, lr_2135, lt_2137, ll_2137, lr_4263, lt_4265, ll_4265, lr_5725, lt_5755, ll_5755, lr_5726, lt_5763, ll_5763, lr_5727, lt_5771, ll_5771, lr_5728, lt_6091, ll_6091, lr_5729, lt_6227, ll_6227, lr_5731, lt_6363, ll_6363, lr_5732, lt_6733, ll_6733, lr_5743, lt_7433, ll_7433, lr_5744, lt_7435, ll_7435, lr_5745, lt_7805, ll_7805, lr_5746, lt_7809, ll_7809, lr_5747, lt_8065, ll_8065, lr_5748, lt_8165, ll_8165, lr_5750, lt_8265, ll_8265, lr_5751, lt_8267, ll_8267, lr_5752, lt_8539, ll_8539, lr_5753, lt_9279, ll_9279, lr_731, lt_733, ll_733, lr_732, lt_899, ll_899, lr_903, lt_905, ll_905, lr_904, lt_1071, ll_1071, lr_1074, lt_1086, ll_1086, lr_1082, lt_1088, ll_1088, lr_1088, lt_1090, ll_1090, lr_1089, lt_1098, ll_1098, lr_1083, lt_1106, ll_1106, lr_1106, lt_1108, ll_1108, lr_1107, lt_1116, ll_1116, lr_1084, lt_1124, ll_1124, lr_1124, lt_1126, ll_1126, lr_1125, lt_1134, ll_1134, lr_1085, lt_1142, ll_1142, lr_1142, lt_1147, ll_1147, lr_1143, lt_1207, ll_1207, lr_1144, lt_1267, ll_1267, lr_1145, lt_1327, ll_1327, lr_1146, lt_1387, ll_1387, lr_1447, lt_1459, ll_1459, lr_1455, lt_1461, ll_1461, lr_1461, lt_1463, ll_1463, lr_1462, lt_1471, ll_1471, lr_1456, lt_1479, ll_1479, lr_1479, lt_1481, ll_1481, lr_1480, lt_1489, ll_1489, lr_1457, lt_1497, ll_1497, lr_1497, lt_1499, ll_1499, lr_1498, lt_1507, ll_1507, lr_1458, lt_1515, ll_1515, lr_1515, lt_1520, ll_1520, lr_1516, lt_1580, ll_1580, lr_1517, lt_1640, ll_1640, lr_1518, lt_1700, ll_1700, lr_1519, lt_1760, ll_1760]
        refine ⟨fun g => ?_, fun g => ?_⟩
        · have : p = A := by omega
          subst this
          unfold stc at ih'
          refine ⟨fun g1 => ⟨⟨by omega, by omega⟩, ?_⟩, fun g1 => ⟨fun g2 => ⟨⟨by omega, by omega⟩, ?_⟩, fun g2 => ⟨fun g3 => ⟨⟨by omega, by omega⟩, ?_⟩, fun g3 => ⟨⟨by omega, by omega⟩, ?_⟩⟩⟩⟩
          · rw [if_neg (fun h => by omega)] at ih'; exact ih'
          · rw [if_neg (fun h => by omega)] at ih'; exact ih'
          · rw [if_neg (fun h => by omega)] at ih'; exact ih'
          · rw [if_pos ⟨by omega, by omega, by omega⟩] at ih'; exact ih'
        · have hpA' : p < A := by omega
          have ih2' := ih2 (p + 1) (by omega) (by show A - (p + 1) < A - p; omega)
          rw [sw_s, sw_s, sw_s] at ih2'
          rw [n_test (show s < 65536 by omega) (show p < 16 by omega)]
          have cb := cwb p hpA'
          have tb : s.testBit p = decide (s / 2 ^ p % 2 = 1) := Nat.testBit_eq_decide_div_mod_eq
          have hz : s / 2 ^ p % 2 < 2 := Nat.mod_lt _ (by decide)
          generalize s / 2 ^ p % 2 = z at tb hz ⊢
          refine ⟨fun g1 => ⟨⟨by omega, by omega⟩, ?_⟩, fun g1 => ?_⟩
          · have e : s.testBit p = false := by rw [tb]; exact decide_eq_false (by omega)
            rw [e, if_neg (show ¬ (false = true) by decide), if_neg (show ¬ (false = true) by decide), if_neg (show ¬ (false = true) by decide), Int.add_zero, Int.add_zero, Int.add_zero] at ih2'
            exact ih2'
          · have e : s.testBit p = true := by rw [tb]; exact decide_eq_true (by omega)
            rw [e, if_pos rfl, if_pos rfl, if_pos rfl] at ih2'
            refine ⟨fun d => ?_, fun d => ?_⟩
            · have epc : (p : Int) - c0 = ((p - c0 : Nat) : Int) := by omega
              have q0 : cw x 0 c0 p = tw x 1 (p - c0) 0 := by unfold cw; rw [if_neg (by omega)]
              have q1 : cw x 1 c0 p = tw x 1 (p - c0) 1 := by unfold cw; rw [if_neg (by omega)]
              rw [epc]
              refine ⟨⟨by omega, by omega⟩, ?_⟩
              refine sp_ofT (s := 1) (k := 0) l (by decide) (by omega) (by decide) F ?_
              rw [← q0]
              refine ⟨⟨by omega, by omega⟩, fun _ => ⟨⟨by omega, by omega⟩, ?_⟩, fun d2 => absurd d d2⟩
              refine sp_ofT (s := 1) (k := 1) l (by decide) (by omega) (by decide) F ?_
              rw [← q1]
              exact ⟨⟨by omega, by omega⟩, ⟨by omega, by omega⟩, ⟨by omega, by omega⟩, ih2'⟩
            · have q0 : cw x 0 c0 p = tw x 0 p 0 := by unfold cw; rw [if_pos (by omega)]
              have q1 : cw x 1 c0 p = tw x 0 p 1 := by unfold cw; rw [if_pos (by omega)]
              refine sp_ofT (s := 0) (k := 0) l (by decide) (by omega) (by decide) F ?_
              rw [← q0]
              refine ⟨⟨by omega, by omega⟩, fun d2 => absurd d2 d, fun _ => ?_⟩
              refine sp_ofT (s := 0) (k := 1) l (by decide) (by omega) (by decide) F ?_
              rw [← q1]
              exact ⟨⟨by omega, by omega⟩, ⟨by omega, by omega⟩, ⟨by omega, by omega⟩, ih2'⟩
      exact inner 0 (Nat.zero_le _)
  have st := outer 1 ⟨Nat.le_refl _, hpos⟩
  have e0 : scan (cw x 0 c0) (cw x 1 c0) A w n (0, 0) 0 1 = (0, 0) := by
    rw [scan_s]
    show stc (cw x 0 c0) (cw x 1 c0) A w n (0, 0) 0 = (0, 0)
    unfold stc
    rw [sw_zero, sw_zero, sw_zero, if_neg (fun h => absurd h.2.2 (by decide))]
  rw [e0] at st
  (repeat' (with_reducible refine And.intro ?_ ?_)) <;> first | exact st | exact trivial | omega | exact ⟨by omega, by omega⟩
theorem I5.okK {x : hm} (h : I5 x) (hst : ¬ x 730 = 0) : okK x (x 6091).toNat (x 6092).toNat := by
  have c0 := h.cnt (s := 0) (by omega)
  have c1 := h.cnt (s := 1) (by omega)
  have a0 : x 735 = x 6091 := c0.1.1
  have a1 : x 817 = x 6092 := c1.1.1
  have b0 : 0 ≤ x 6091 ∧ x 6091 ≤ 8 := c0.1.2
  have b1 : 0 ≤ x 6092 ∧ x 6092 ≤ 8 := c1.1.2
  have hO : OM 6091 x := by
    rcases h.2.1 with ⟨a, -⟩ | ⟨-, o⟩
    · exact absurd a hst
    · exact o
  refine ⟨by omega, by omega, by omega, by omega, by omega, by omega, fun sd p k hsd hp hk => ?_⟩
  have hp8 : p < 8 := by
    rcases (show sd = 0 ∨ sd = 1 by omega) with e | e
    · subst e; have : (p : Int) < x 6091 := hp; omega
    · subst e; have : (p : Int) < x 6092 := hp; omega
  have t := (hO.1 sd hsd).2.1 p hp8 hp
  refine ⟨RM.tr h.2.2 hsd hp8 hp hk, ?_⟩
  unfold tw
  rw [show 6091 + (8 + 40 * sd + 5 * p + 0) = 6091 + 8 + 40 * sd + 5 * p by omega, show 6091 + (8 + 40 * sd + 5 * p + 1) = 6091 + 8 + 40 * sd + 5 * p + 1 by omega]
  omega
theorem pr_chosen (l : Launch) {m : Nat} {x : hm} (hI : IV m x) {w n v : Int} : hm_I l m_X9_chosen 22 [Vr 0, Vi w, Vi n, Vi v] x (fun r x1 => hm_I l m_X10_chosen 2 [Vr 5723, Vi w, Vi n, Vi v] x1 (fun r2 x2 => r = r2 ∧ IV (m + 1) x2)) := by
  obtain ⟨j1, j2, j3, j4, j5, j6, j7, j8, j9, j10⟩ := hI
  have e5 : x 730 = x 5730 := j5.1
  have h18 : x 2118 = 0 := j8
  have bad : ¬ okCh w n v → hm_I l m_X10_chosen 2 [Vr 5723, Vi w, Vi n, Vi v] x (fun r2 x2 => -1000001 = r2 ∧ IV (m + 1) x2) := fun g => by
    refine mo_chosen l (fun _ y F => ⟨rfl, (I1_congr (fun a ha => F a (by omega)) j1), (I2_congr (fun a ha => F a (by omega)) j2), (I3_congr (fun a ha => F a (by omega)) j3), (I4_congr (fun a ha => F a (by omega)) j4), (I5_congr (fun a ha => F a (by omega)) j5), (I6_congr (by omega) (fun a ha => F a (by omega)) j6), (I7_congr (by omega) (fun a ha => F a (by omega)) j7), (I8_congr (fun a ha => F a (by omega)) j8), (I9_congr (fun a ha => F a (by omega)) j9), (I10_congr (fun a ha => F a (by omega)) j10)⟩) (fun o => absurd o g) (c0 := (x 6091).toNat) (c1 := (x 6092).toNat) (fun c => j5.okK (by rw [e5]; exact c)) (fun o => absurd o g)
  unfold okCh at bad
  refine hr_X9_chosen l (Nat.le_of_ble_eq_true rfl) ?_
  simp only [hb_X9_chosen_29, hb_X9_chosen_79, hb_X9_chosen_72, hb_X9_chosen_62, hb_X9_chosen_45, hb_X9_chosen_42, hb_X9_chosen_32, hb_X9_chosen_21, hb_X9_chosen_15, hb_X9_chosen_10, hb_X9_chosen_0, hc_iconst, hc_lconst, hc_iload, hc_lload, hc_aload, hc_istore, hc_astore, hc_lstore, hc_iinc, hc_dup, hc_dup2, hc_pop, hc_iadd, hc_isub, hc_imul, hc_iaddw, hc_isubw, hc_imulw, hc_inegw, hc_idiv, hc_irem, hc_ineg, hc_b2, hc_b1, hc_i2l, hc_l2i, hc_ladd, hc_l2, hc_lsh, hc_lcmp, hc_if, hc_icmp, hc_jump, hc_getI, hc_getR, hc_putI, hc_putZ, hc_xald, hc_iast, hc_bast, hc_zast, hc_aald, hc_alen, hc_copy, hc_gets, hc_getsI, hc_sald, hc_ldcs, hc_sval, hc_scod, hc_slen, hc_sbald, hc_callI, hc_callL, hc_callV, hc_max, hc_min, hc_abs, hc_ireturn, hc_zreturn, hc_creturn, hc_lreturn, hc_return, hc_none, hc_switch, hv_sw, hv_get, hv_set, hv_set2, hv_mask, hv_fr, hv_noL, hv_pop, hv_pk, hv_isO, hv_isS, hv_any, hv_w, hv_cat, he_nil, he_i, he_r, he_l, hv_repl_0, hv_repl_s, if_true, if_false, and_true, true_and, and_self, Nat.zero_add, Nat.add_zero, Nat.reduceAdd, Nat.reduceLeDiff, List.length_cons, List.length_nil, Int.toNat_natCast, Bool.false_eq_true, reduceIte, Int.toNat_zero, Int.toNat_one, Int.reduceToNat, or_true, true_or, Int.reduceEq, Int.reduceLT, Int.reduceLE, Int.reduceNeg, Int.reduceAdd, Int.reduceSub, Int.reduceMul, Nat.reduceMul, Nat.reduceEqDiff, implies_true, false_implies, true_implies, not_true_eq_false, not_false_eq_true, ne_eq, or_false, false_or, and_false, false_and, or_self, Classical.not_not, Int.zero_add, Int.add_zero, lc_0, lc_22, lc_730, lc_902, lc_1074, lc_1447, lc_1824, lc_2081, lc_2135, lc_4258, lc_5723, lr_0, lt_14, ll_14, lr_2, lr_4, lr_5, lr_6, lr_7, lr_8, lt_1820, ll_1820, lr_9, lt_1822, ll_1822, lr_10, lr_11, lr_12, lr_13, lr_22, lt_30, ll_30, lr_1824, lt_1825, ll_1825, lr_2081, lt_2086, ll_2086, lr_2082, lt_2102, ll_2102, lr_2083, lt_2118, ll_2118, lr_2135, lt_2137, ll_2137, lr_4263, lt_4265, ll_4265, lr_5725, lt_5755, ll_5755, lr_5726, lt_5763, ll_5763, lr_5727, lt_5771, ll_5771, lr_5728, lt_6091, ll_6091, lr_5729, lt_6227, ll_6227, lr_5731, lt_6363, ll_6363, lr_5732, lt_6733, ll_6733, lr_5743, lt_7433, ll_7433, lr_5744, lt_7435, ll_7435, lr_5745, lt_7805, ll_7805, lr_5746, lt_7809, ll_7809, lr_5747, lt_8065, ll_8065, lr_5748, lt_8165, ll_8165, lr_5750, lt_8265, ll_8265, lr_5751, lt_8267, ll_8267, lr_5752, lt_8539, ll_8539, lr_5753, lt_9279, ll_9279, lr_731, lt_733, ll_733, lr_732, lt_899, ll_899, lr_903, lt_905, ll_905, lr_904, lt_1071, ll_1071, lr_1074, lt_1086, ll_1086, lr_1082, lt_1088, ll_1088, lr_1088, lt_1090, ll_1090, lr_1089, lt_1098, ll_1098, lr_1083, lt_1106, ll_1106, lr_1106, lt_1108, ll_1108, lr_1107, lt_1116, ll_1116, lr_1084, lt_1124, ll_1124, lr_1124, lt_1126, ll_1126, lr_1125, lt_1134, ll_1134, lr_1085, lt_1142, ll_1142, lr_1142, lt_1147, ll_1147, lr_1143, lt_1207, ll_1207, lr_1144, lt_1267, ll_1267, lr_1145, lt_1327, ll_1327, lr_1146, lt_1387, ll_1387, lr_1447, lt_1459, ll_1459, lr_1455, lt_1461, ll_1461, lr_1461, lt_1463, ll_1463, lr_1462, lt_1471, ll_1471, lr_1456, lt_1479, ll_1479, lr_1479, lt_1481, ll_1481, lr_1480, lt_1489, ll_1489, lr_1457, lt_1497, ll_1497, lr_1497, lt_1499, ll_1499, lr_1498, lt_1507, ll_1507, lr_1458, lt_1515, ll_1515, lr_1515, lt_1520, ll_1520, lr_1516, lt_1580, ll_1580, lr_1517, lt_1640, ll_1640, lr_1518, lt_1700, ll_1700, lr_1519, lt_1760, ll_1760]
  refine sp_within_a l (fun a0 a1 => ?_) (fun g => bad (by omega))
  refine ⟨fun b0 => bad (by omega), fun b0 => ⟨fun b1 => bad (by omega), fun b1 => ?_⟩⟩
  refine sp_within_b l (fun v0 v1 => ?_) (fun g => bad (by omega))
  have ok : okCh w n v := ⟨⟨by omega, by omega⟩, ⟨by omega, by omega⟩, by omega, by omega⟩
  refine ⟨fun c => ?_, fun c => ?_⟩
  · have hK := j5.okK c
    generalize (x 6091).toNat = c0 at hK
    generalize (x 6092).toNat = c1 at hK
    refine sp_choose l hK h18 ⟨by omega, by omega⟩ ⟨by omega, by omega⟩ (fun y f1 y18 g1 g2 => ?_)
    have e1 : ∀ k, k < 2 → cw y k c0 = cw x k c0 := fun k hk => by
      funext p
      unfold cw tw
      rw [f1 _ (by omega), f1 _ (by omega)]
    have hKy : okK y c0 c1 := by
      obtain ⟨k1, k2, k3, k4, k5, k6, k7⟩ := hK
      refine ⟨k1, k2, by rw [f1 _ (by omega)]; exact k3, by rw [f1 _ (by omega)]; exact k4, by rw [f1 _ (by omega)]; exact k5, by rw [f1 _ (by omega)]; exact k6, fun sd p k hsd hp hk => ?_⟩
      rw [f1 _ (by omega)] at hp
      have hp8 : p < 8 := by
        rcases (show sd = 0 ∨ sd = 1 by omega) with e | e
        · subst e; have : (p : Int) < x 6091 := hp; omega
        · subst e; have : (p : Int) < x 6092 := hp; omega
      have := k7 sd p k hsd hp hk
      unfold tw at this ⊢
      rw [f1 _ (by omega), f1 _ (by omega), f1 _ (by omega), f1 _ (by omega)]
      exact this
    have go : ∀ r : Int, r = (if v = 0 then y 2084 else y 2085) → hm_I l m_X10_chosen 2 [Vr 5723, Vi w, Vi n, Vi v] y (fun r2 x2 => r = r2 ∧ IV (m + 1) x2) := fun r hr => by
      refine mo_chosen l (fun g => absurd ok g) (fun _ c2 => absurd (by rw [f1 _ (by omega), ← e5] at c2; exact c2) c) (fun _ => hKy) (fun _ _ z f2 => ⟨?_, ?_⟩)
      · rw [hr, e1 0 (by omega), e1 1 (by omega), g1, g2]
      · have F : ∀ a, a ≠ 5723 ∧ ¬ (2084 ≤ a ∧ a < 2135) → z a = x a := fun a ha => by rw [f2 a ha.1]; exact f1 a ha.2
        have J8 : I8 z := by unfold I8; rw [f2 _ (by omega)]; exact y18
        exact ⟨(I1_congr (fun a ha => F a (by omega)) j1), (I2_congr (fun a ha => F a (by omega)) j2), (I3_congr (fun a ha => F a (by omega)) j3), (I4_congr (fun a ha => F a (by omega)) j4), (I5_congr (fun a ha => F a (by omega)) j5), (I6_congr (by omega) (fun a ha => F a (by omega)) j6), (I7_congr (by omega) (fun a ha => F a (by omega)) j7), J8, (I9_congr (fun a ha => F a (by omega)) j9), (I10_congr (fun a ha => F a (by omega)) j10)⟩
    exact ⟨fun d => go _ (by rw [if_neg d]), fun d => go _ (by rw [if_pos d])⟩
  · refine mo_chosen (c0 := 0) (c1 := 0) l (fun g => absurd ok g) (fun _ _ y F => ⟨rfl, (I1_congr (fun a ha => F a (by omega)) j1), (I2_congr (fun a ha => F a (by omega)) j2), (I3_congr (fun a ha => F a (by omega)) j3), (I4_congr (fun a ha => F a (by omega)) j4), (I5_congr (fun a ha => F a (by omega)) j5), (I6_congr (by omega) (fun a ha => F a (by omega)) j6), (I7_congr (by omega) (fun a ha => F a (by omega)) j7), (I8_congr (fun a ha => F a (by omega)) j8), (I9_congr (fun a ha => F a (by omega)) j9), (I10_congr (fun a ha => F a (by omega)) j10)⟩) (fun c2 => absurd (by rw [← e5]; exact c) c2) (fun _ c2 => absurd (by rw [← e5]; exact c) c2)
