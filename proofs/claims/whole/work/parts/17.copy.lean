/-! copy -/
theorem sp_c_copy (l : Launch) {a i b j n : Int} {mem : hm} (hI : I1 mem) {Q : Int → hm → Prop} (hbad : ¬ (0 ≤ a ∧ a < 8 ∧ 0 ≤ b ∧ b < 8) → Q (-1000001) mem)
    (hnul : ∀ k q : Nat, a = k → k < 8 → b = q → q < 8 → (mem (4281 + 44 * k) = 1 ∨ mem (4281 + 44 * q) = 1) → Q (-1000011) (hh_upd mem 1 1))
    (hst : ∀ k q : Nat, a = k → k < 8 → b = q → q < 8 → mem (4281 + 44 * k) = 0 → mem (4281 + 44 * q) = 0 → ¬ mem (4281 + 44 * k + 1) = mem (4281 + 44 * q + 1) → Q (-1000015) (hh_upd mem 1 5))
    (hpl : ∀ k q : Nat, a = k → k < 8 → b = q → q < 8 → mem (4281 + 44 * k) = 0 → mem (4281 + 44 * q) = 0 → mem (4281 + 44 * k + 1) = mem (4281 + 44 * q + 1) → ¬ (0 ≤ i ∧ 0 ≤ j ∧ 0 ≤ n ∧ i + n ≤ mem (4281 + 44 * k + 2) ∧ j + n ≤ mem (4281 + 44 * q + 2)) → Q (-1000012) (hh_upd mem 1 2))
    (hok : ∀ k q i' j' n' : Nat, a = k → k < 8 → b = q → q < 8 → i = i' → j = j' → n = n' → mem (4281 + 44 * k) = 0 → mem (4281 + 44 * q) = 0 → mem (4281 + 44 * k + 1) = mem (4281 + 44 * q + 1) → (i' + n' : Int) ≤ mem (4281 + 44 * k + 2) → (j' + n' : Int) ≤ mem (4281 + 44 * q + 2) → Q n (hh_upd (hh_cpy mem (4285 + 44 * k) i' (4285 + 44 * q) j' n') 1 0)) : hm_I l m_X9_copy 2 [Vr 0, Vi a, Vi i, Vi b, Vi j, Vi n] mem Q := by
  refine hr_X9_copy l (Nat.le_of_ble_eq_true rfl) ?_
  simp only [hb_X9_copy_18, hb_X9_copy_53, hb_X9_copy_101, hb_X9_copy_107, hb_X9_copy_89, hb_X9_copy_78, hb_X9_copy_72, hb_X9_copy_59, hb_X9_copy_45, hb_X9_copy_21, hb_X9_copy_9, hb_X9_copy_0, hc_iconst, hc_lconst, hc_iload, hc_lload, hc_aload, hc_istore, hc_astore, hc_lstore, hc_iinc, hc_dup, hc_dup2, hc_pop, hc_iadd, hc_isub, hc_imul, hc_iaddw, hc_isubw, hc_imulw, hc_inegw, hc_idiv, hc_irem, hc_ineg, hc_b2, hc_b1, hc_i2l, hc_l2i, hc_ladd, hc_l2, hc_lsh, hc_lcmp, hc_if, hc_icmp, hc_jump, hc_getI, hc_getR, hc_putI, hc_putZ, hc_xald, hc_iast, hc_bast, hc_zast, hc_aald, hc_alen, hc_copy, hc_gets, hc_getsI, hc_sald, hc_ldcs, hc_sval, hc_scod, hc_slen, hc_sbald, hc_callI, hc_callL, hc_callV, hc_max, hc_min, hc_abs, hc_ireturn, hc_zreturn, hc_creturn, hc_lreturn, hc_return, hc_none, hc_switch, hv_sw, hv_get, hv_set, hv_set2, hv_mask, hv_fr, hv_noL, hv_pop, hv_pk, hv_isO, hv_isS, hv_any, hv_w, hv_cat, he_nil, he_i, he_r, he_l, hv_repl_0, hv_repl_s, if_true, if_false, and_true, true_and, and_self, Nat.zero_add, Nat.add_zero, Nat.reduceAdd, Nat.reduceLeDiff, List.length_cons, List.length_nil, Int.toNat_natCast, Bool.false_eq_true, reduceIte, Int.toNat_zero, Int.toNat_one, Int.reduceToNat, or_true, true_or, Int.reduceEq, Int.reduceLT, Int.reduceLE, Int.reduceNeg, Int.reduceAdd, Int.reduceSub, Int.reduceMul, Nat.reduceMul, Nat.reduceEqDiff, implies_true, false_implies, true_implies, not_true_eq_false, not_false_eq_true, ne_eq, or_false, false_or, and_false, false_and, or_self, Classical.not_not, Int.zero_add, Int.add_zero, lc_0, lc_22, lc_730, lc_902, lc_1074, lc_1447, lc_1824, lc_2081, lc_2135, lc_4258, lc_5723, lr_0, lt_14, ll_14, lr_2, lr_4, lr_5, lr_6, lr_7, lr_8, lt_1820, ll_1820, lr_9, lt_1822, ll_1822, lr_10, lr_11, lr_12, lr_13, lr_22, lt_30, ll_30, lr_1824, lt_1825, ll_1825, lr_2081, lt_2086, ll_2086, lr_2082, lt_2102, ll_2102, lr_2083, lt_2118, ll_2118, lr_2135, lt_2137, ll_2137, lr_4263, lt_4265, ll_4265, lr_5725, lt_5755, ll_5755, lr_5726, lt_5763, ll_5763, lr_5727, lt_5771, ll_5771, lr_5728, lt_6091, ll_6091, lr_5729, lt_6227, ll_6227, lr_5731, lt_6363, ll_6363, lr_5732, lt_6733, ll_6733, lr_5743, lt_7433, ll_7433, lr_5744, lt_7435, ll_7435, lr_5745, lt_7805, ll_7805, lr_5746, lt_7809, ll_7809, lr_5747, lt_8065, ll_8065, lr_5748, lt_8165, ll_8165, lr_5750, lt_8265, ll_8265, lr_5751, lt_8267, ll_8267, lr_5752, lt_8539, ll_8539, lr_5753, lt_9279, ll_9279, lr_731, lt_733, ll_733, lr_732, lt_899, ll_899, lr_903, lt_905, ll_905, lr_904, lt_1071, ll_1071, lr_1074, lt_1086, ll_1086, lr_1082, lt_1088, ll_1088, lr_1088, lt_1090, ll_1090, lr_1089, lt_1098, ll_1098, lr_1083, lt_1106, ll_1106, lr_1106, lt_1108, ll_1108, lr_1107, lt_1116, ll_1116, lr_1084, lt_1124, ll_1124, lr_1124, lt_1126, ll_1126, lr_1125, lt_1134, ll_1134, lr_1085, lt_1142, ll_1142, lr_1142, lt_1147, ll_1147, lr_1143, lt_1207, ll_1207, lr_1144, lt_1267, ll_1267, lr_1145, lt_1327, ll_1327, lr_1146, lt_1387, ll_1387, lr_1447, lt_1459, ll_1459, lr_1455, lt_1461, ll_1461, lr_1461, lt_1463, ll_1463, lr_1462, lt_1471, ll_1471, lr_1456, lt_1479, ll_1479, lr_1479, lt_1481, ll_1481, lr_1480, lt_1489, ll_1489, lr_1457, lt_1497, ll_1497, lr_1497, lt_1499, ll_1499, lr_1498, lt_1507, ll_1507, lr_1458, lt_1515, ll_1515, lr_1515, lt_1520, ll_1520, lr_1516, lt_1580, ll_1580, lr_1517, lt_1640, ll_1640, lr_1518, lt_1700, ll_1700, lr_1519, lt_1760, ll_1760]
  refine sp_within_a l (fun s0 s1 => ?_) (fun h => hbad (by omega))
  refine sp_within_b l (fun t0 t1 => ?_) (fun h => hbad (by omega))
  obtain ⟨k, rfl⟩ := Int.eq_ofNat_of_zero_le s0
  obtain ⟨q, rfl⟩ := Int.eq_ofNat_of_zero_le t0
  have hk : k < 8 := by omega
  have hq : q < 8 := by omega
  have hk1 := hI k hk
  have hq1 := hI q hq
  unfold I1k at hk1 hq1
  rw [Int.toNat_natCast, Int.toNat_natCast, lr_sheet hk, lr_sheet hq]
  simp only [ls_cls hk, ls_rf hk, ls_tag hk, ls_len hk, ls_cls hq, ls_rf hq, ls_tag hq, ls_len hq, true_and]
  refine ⟨⟨by omega, by omega⟩, ⟨by omega, by omega⟩, fun h0 => ?_, fun h0 => ⟨fun g0 => ?_, fun g0 => ?_⟩⟩
  · exact sp_found l (by omega) (hnul k q rfl hk rfl hq (by omega))
  · refine ⟨fun he => ?_, fun he => sp_found l (by omega) (hst k q rfl hk rfl hq h0 g0 he)⟩
    refine sp_holds_a l hk (by omega) (fun u1 u2 u3 => ?_) (fun u => sp_found l (by omega) (hpl k q rfl hk rfl hq h0 g0 he (by omega)))
    refine sp_holds_b l hq (by omega) (fun v1 v2 v3 => ?_) (fun u => sp_found l (by omega) (hpl k q rfl hk rfl hq h0 g0 he (by omega)))
    obtain ⟨i', rfl⟩ := Int.eq_ofNat_of_zero_le u1
    obtain ⟨n', rfl⟩ := Int.eq_ofNat_of_zero_le u2
    obtain ⟨j', rfl⟩ := Int.eq_ofNat_of_zero_le v1
    refine ⟨⟨u1, v1, u2, by omega, by omega⟩, ?_⟩
    rw [Int.toNat_natCast, Int.toNat_natCast, Int.toNat_natCast]
    exact sp_well l (hok k q i' j' n' rfl hk rfl hq rfl rfl rfl h0 g0 he (by omega) (by omega))
  · exact sp_found l (by omega) (hnul k q rfl hk rfl hq (by omega))
theorem sp_m_copy (l : Launch) {a i b j n : Int} {mem : hm} (hB : B1 mem) (hi : hv_I i) (hj : hv_I j) (hn : hv_I n) {Q : Int → hm → Prop} (hbad : ¬ (0 ≤ a ∧ a < 8 ∧ 0 ≤ b ∧ b < 8) → ∀ x : hm, (∀ a, a ≠ 5723 → x a = mem a) → Q (-1000001) x)
    (hnul : ∀ k q : Nat, a = k → k < 8 → b = q → q < 8 → (mem (5755 + k) < 0 ∨ mem (5755 + q) < 0) → ∀ x : hm, x 5724 = 1 → (∀ a, a ≠ 5723 ∧ a ≠ 5724 → x a = mem a) → Q (-1000011) x)
    (hst : ∀ k q : Nat, a = k → k < 8 → b = q → q < 8 → 0 ≤ mem (5755 + k) → 0 ≤ mem (5755 + q) → ¬ mem (5755 + k) = mem (5755 + q) → ∀ x : hm, x 5724 = 5 → (∀ a, a ≠ 5723 ∧ a ≠ 5724 → x a = mem a) → Q (-1000015) x)
    (hpl : ∀ k q : Nat, a = k → k < 8 → b = q → q < 8 → 0 ≤ mem (5755 + k) → 0 ≤ mem (5755 + q) → mem (5755 + k) = mem (5755 + q) → ¬ (0 ≤ i ∧ 0 ≤ j ∧ 0 ≤ n ∧ i + n ≤ mem (5763 + k) ∧ j + n ≤ mem (5763 + q)) → ∀ x : hm, x 5724 = 2 → (∀ a, a ≠ 5723 ∧ a ≠ 5724 → x a = mem a) → Q (-1000012) x)
    (hok : ∀ k q i' j' n' : Nat, a = k → k < 8 → b = q → q < 8 → i = i' → j = j' → n = n' → 0 ≤ mem (5755 + k) → 0 ≤ mem (5755 + q) → mem (5755 + k) = mem (5755 + q) → (i' + n' : Int) ≤ mem (5763 + k) → (j' + n' : Int) ≤ mem (5763 + q) → ∀ x : hm, x 5724 = 0 → (∀ a, a ≠ 5723 ∧ a ≠ 5724 → x a = hh_cpy mem (5771 + 40 * k) i' (5771 + 40 * q) j' n' a) → Q n x) : hm_I l m_X10_copy 3 [Vr 5723, Vi a, Vi i, Vi b, Vi j, Vi n] mem Q := by
  refine hr_X10_copy l (Nat.le_of_ble_eq_true rfl) ?_
  intro At h143
  simp only [hb_X10_copy_19, hb_X10_copy_45, hb_X10_copy_121, hb_X10_copy_204, hb_X10_copy_167, hb_X10_copy_160, hb_X10_copy_155, hb_X10_copy_150, hb_X10_copy_143, hb_X10_copy_138, hb_X10_copy_137, hb_X10_copy_133, hb_X10_copy_127, hb_X10_copy_103, hb_X10_copy_86, hb_X10_copy_81, hb_X10_copy_76, hb_X10_copy_72, hb_X10_copy_66, hb_X10_copy_51, hb_X10_copy_36, hb_X10_copy_22, hb_X10_copy_12, hb_X10_copy_0, hc_iconst, hc_lconst, hc_iload, hc_lload, hc_aload, hc_istore, hc_astore, hc_lstore, hc_iinc, hc_dup, hc_dup2, hc_pop, hc_iadd, hc_isub, hc_imul, hc_iaddw, hc_isubw, hc_imulw, hc_inegw, hc_idiv, hc_irem, hc_ineg, hc_b2, hc_b1, hc_i2l, hc_l2i, hc_ladd, hc_l2, hc_lsh, hc_lcmp, hc_if, hc_icmp, hc_jump, hc_getI, hc_getR, hc_putI, hc_putZ, hc_xald, hc_iast, hc_bast, hc_zast, hc_aald, hc_alen, hc_copy, hc_gets, hc_getsI, hc_sald, hc_ldcs, hc_sval, hc_scod, hc_slen, hc_sbald, hc_callI, hc_callL, hc_callV, hc_max, hc_min, hc_abs, hc_ireturn, hc_zreturn, hc_creturn, hc_lreturn, hc_return, hc_none, hc_switch, hv_sw, hv_get, hv_set, hv_set2, hv_mask, hv_fr, hv_noL, hv_pop, hv_pk, hv_isO, hv_isS, hv_any, hv_w, hv_cat, he_nil, he_i, he_r, he_l, hv_repl_0, hv_repl_s, if_true, if_false, and_true, true_and, and_self, Nat.zero_add, Nat.add_zero, Nat.reduceAdd, Nat.reduceLeDiff, List.length_cons, List.length_nil, Int.toNat_natCast, Bool.false_eq_true, reduceIte, Int.toNat_zero, Int.toNat_one, Int.reduceToNat, or_true, true_or, Int.reduceEq, Int.reduceLT, Int.reduceLE, Int.reduceNeg, Int.reduceAdd, Int.reduceSub, Int.reduceMul, Nat.reduceMul, Nat.reduceEqDiff, implies_true, false_implies, true_implies, not_true_eq_false, not_false_eq_true, ne_eq, or_false, false_or, and_false, false_and, or_self, Classical.not_not, Int.zero_add, Int.add_zero, lc_0, lc_22, lc_730, lc_902, lc_1074, lc_1447, lc_1824, lc_2081, lc_2135, lc_4258, lc_5723, lr_0, lt_14, ll_14, lr_2, lr_4, lr_5, lr_6, lr_7, lr_8, lt_1820, ll_1820, lr_9, lt_1822, ll_1822, lr_10, lr_11, lr_12, lr_13, lr_22, lt_30, ll_30, lr_1824, lt_1825, ll_1825, lr_2081, lt_2086, ll_2086, lr_2082, lt_2102, ll_2102, lr_2083, lt_2118, ll_2118, lr_2135, lt_2137, ll_2137, lr_4263, lt_4265, ll_4265, lr_5725, lt_5755, ll_5755, lr_5726, lt_5763, ll_5763, lr_5727, lt_5771, ll_5771, lr_5728, lt_6091, ll_6091, lr_5729, lt_6227, ll_6227, lr_5731, lt_6363, ll_6363, lr_5732, lt_6733, ll_6733, lr_5743, lt_7433, ll_7433, lr_5744, lt_7435, ll_7435, lr_5745, lt_7805, ll_7805, lr_5746, lt_7809, ll_7809, lr_5747, lt_8065, ll_8065, lr_5748, lt_8165, ll_8165, lr_5750, lt_8265, ll_8265, lr_5751, lt_8267, ll_8267, lr_5752, lt_8539, ll_8539, lr_5753, lt_9279, ll_9279, lr_731, lt_733, ll_733, lr_732, lt_899, ll_899, lr_903, lt_905, ll_905, lr_904, lt_1071, ll_1071, lr_1074, lt_1086, ll_1086, lr_1082, lt_1088, ll_1088, lr_1088, lt_1090, ll_1090, lr_1089, lt_1098, ll_1098, lr_1083, lt_1106, ll_1106, lr_1106, lt_1108, ll_1108, lr_1107, lt_1116, ll_1116, lr_1084, lt_1124, ll_1124, lr_1124, lt_1126, ll_1126, lr_1125, lt_1134, ll_1134, lr_1085, lt_1142, ll_1142, lr_1142, lt_1147, ll_1147, lr_1143, lt_1207, ll_1207, lr_1144, lt_1267, ll_1267, lr_1145, lt_1327, ll_1327, lr_1146, lt_1387, ll_1387, lr_1447, lt_1459, ll_1459, lr_1455, lt_1461, ll_1461, lr_1461, lt_1463, ll_1463, lr_1462, lt_1471, ll_1471, lr_1456, lt_1479, ll_1479, lr_1479, lt_1481, ll_1481, lr_1480, lt_1489, ll_1489, lr_1457, lt_1497, ll_1497, lr_1497, lt_1499, ll_1499, lr_1498, lt_1507, ll_1507, lr_1458, lt_1515, ll_1515, lr_1515, lt_1520, ll_1520, lr_1516, lt_1580, ll_1580, lr_1517, lt_1640, ll_1640, lr_1518, lt_1700, ll_1700, lr_1519, lt_1760, ll_1760]
  refine sp_isSheet_a l (fun s0 s1 => ?_) (fun h => hbad (by omega) _ (fun a ha => hh_upd_ne ha))
  refine sp_isSheet_b l (fun t0 t1 => ?_) (fun h => hbad (by omega) _ (fun a ha => hh_upd_ne ha))
  obtain ⟨k, rfl⟩ := Int.eq_ofNat_of_zero_le s0
  obtain ⟨q, rfl⟩ := Int.eq_ofNat_of_zero_le t0
  have hk : k < 8 := by omega
  have hq : q < 8 := by omega
  have hk1 := hB k hk
  have hq1 := hB q hq
  rw [Int.toNat_natCast, Int.toNat_natCast]
  generalize hx1 : hh_upd (hh_upd mem 5723 0) 5724 0 = x1
  have G : ∀ a, a ≠ 5723 ∧ a ≠ 5724 → x1 a = mem a := fun a ha => by rw [← hx1]; (first | (simp only [hh_upd, reduceIte]; done) | (simp only [hh_upd, reduceIte]; (repeat' split) <;> first | rfl | omega | assumption))
  have G0 : x1 5724 = 0 := by rw [← hx1]; (first | (simp only [hh_upd, reduceIte]; done) | (simp only [hh_upd, reduceIte]; (repeat' split) <;> first | rfl | omega | assumption))
  have e1 := G (5755 + k) (by omega)
  have e2 := G (5763 + k) (by omega)
  have e3 := G (5755 + q) (by omega)
  have e4 := G (5763 + q) (by omega)
  have key : ∀ (z : Int) (i' j' n' : Nat), i = i' → j = j' → n = n' → z = (if i < j then 0 else 1) → 0 ≤ mem (5755 + k) → 0 ≤ mem (5755 + q) → mem (5755 + k) = mem (5755 + q) → (i' + n' : Int) ≤ mem (5763 + k) → (j' + n' : Int) ≤ mem (5763 + q) → At 143 [some (Vr 5723), some (Vi k), some (Vi i), some (Vi q), some (Vi j), some (Vi n), some (Vi z), some (Vi 0), none] [] x1 := by
    intro z i' j' n' hi' hj' hn' hz m1 m2 m3 m4 m5
    subst hi' hj' hn'
    refine lp_up n' (G := fun c x => At 143 [some (Vr 5723), some (Vi k), some (Vi i'), some (Vi q), some (Vi j'), some (Vi n'), some (Vi z), some (Vi c), none] [] x) (P := fun c x => ∀ w, x w = if 5771 + 40 * q + j' + (if (i' : Int) < j' then n' - c else 0) ≤ w ∧ w < 5771 + 40 * q + j' + (if (i' : Int) < j' then n' else c) then x1 (5771 + 40 * k + i' + (w - (5771 + 40 * q + j'))) else x1 w) ?_ ?_ 0 _ (by omega) ?_
    · intro x hx
      refine h143 _ _ _ ?_
      simp only [hb_X10_copy_19, hb_X10_copy_45, hb_X10_copy_121, hb_X10_copy_204, hb_X10_copy_167, hb_X10_copy_160, hb_X10_copy_155, hb_X10_copy_150, hb_X10_copy_143, hb_X10_copy_138, hb_X10_copy_137, hb_X10_copy_133, hb_X10_copy_127, hb_X10_copy_103, hb_X10_copy_86, hb_X10_copy_81, hb_X10_copy_76, hb_X10_copy_72, hb_X10_copy_66, hb_X10_copy_51, hb_X10_copy_36, hb_X10_copy_22, hb_X10_copy_12, hb_X10_copy_0, hc_iconst, hc_lconst, hc_iload, hc_lload, hc_aload, hc_istore, hc_astore, hc_lstore, hc_iinc, hc_dup, hc_dup2, hc_pop, hc_iadd, hc_isub, hc_imul, hc_iaddw, hc_isubw, hc_imulw, hc_inegw, hc_idiv, hc_irem, hc_ineg, hc_b2, hc_b1, hc_i2l, hc_l2i, hc_ladd, hc_l2, hc_lsh, hc_lcmp, hc_if, hc_icmp, hc_jump, hc_getI, hc_getR, hc_putI, hc_putZ, hc_xald, hc_iast, hc_bast, hc_zast, hc_aald, hc_alen, hc_copy, hc_gets, hc_getsI, hc_sald, hc_ldcs, hc_sval, hc_scod, hc_slen, hc_sbald, hc_callI, hc_callL, hc_callV, hc_max, hc_min, hc_abs, hc_ireturn, hc_zreturn, hc_creturn, hc_lreturn, hc_return, hc_none, hc_switch, hv_sw, hv_get, hv_set, hv_set2, hv_mask, hv_fr, hv_noL, hv_pop, hv_pk, hv_isO, hv_isS, hv_any, hv_w, hv_cat, he_nil, he_i, he_r, he_l, hv_repl_0, hv_repl_s, if_true, if_false, and_true, true_and, and_self, Nat.zero_add, Nat.add_zero, Nat.reduceAdd, Nat.reduceLeDiff, List.length_cons, List.length_nil, Int.toNat_natCast, Bool.false_eq_true, reduceIte, Int.toNat_zero, Int.toNat_one, Int.reduceToNat, or_true, true_or, Int.reduceEq, Int.reduceLT, Int.reduceLE, Int.reduceNeg, Int.reduceAdd, Int.reduceSub, Int.reduceMul, Nat.reduceMul, Nat.reduceEqDiff, implies_true, false_implies, true_implies, not_true_eq_false, not_false_eq_true, ne_eq, or_false, false_or, and_false, false_and, or_self, Classical.not_not, Int.zero_add, Int.add_zero, lc_0, lc_22, lc_730, lc_902, lc_1074, lc_1447, lc_1824, lc_2081, lc_2135, lc_4258, lc_5723, lr_0, lt_14, ll_14, lr_2, lr_4, lr_5, lr_6, lr_7, lr_8, lt_1820, ll_1820, lr_9, lt_1822, ll_1822, lr_10, lr_11, lr_12, lr_13, lr_22, lt_30, ll_30, lr_1824, lt_1825, ll_1825, lr_2081, lt_2086, ll_2086, lr_2082, lt_2102, ll_2102, lr_2083, lt_2118, ll_2118, lr_2135, lt_2137, ll_2137, lr_4263, lt_4265, ll_4265, lr_5725, lt_5755, ll_5755, lr_5726, lt_5763, ll_5763, lr_5727, lt_5771, ll_5771, lr_5728, lt_6091, ll_6091, lr_5729, lt_6227, ll_6227, lr_5731, lt_6363, ll_6363, lr_5732, lt_6733, ll_6733, lr_5743, lt_7433, ll_7433, lr_5744, lt_7435, ll_7435, lr_5745, lt_7805, ll_7805, lr_5746, lt_7809, ll_7809, lr_5747, lt_8065, ll_8065, lr_5748, lt_8165, ll_8165, lr_5750, lt_8265, ll_8265, lr_5751, lt_8267, ll_8267, lr_5752, lt_8539, ll_8539, lr_5753, lt_9279, ll_9279, lr_731, lt_733, ll_733, lr_732, lt_899, ll_899, lr_903, lt_905, ll_905, lr_904, lt_1071, ll_1071, lr_1074, lt_1086, ll_1086, lr_1082, lt_1088, ll_1088, lr_1088, lt_1090, ll_1090, lr_1089, lt_1098, ll_1098, lr_1083, lt_1106, ll_1106, lr_1106, lt_1108, ll_1108, lr_1107, lt_1116, ll_1116, lr_1084, lt_1124, ll_1124, lr_1124, lt_1126, ll_1126, lr_1125, lt_1134, ll_1134, lr_1085, lt_1142, ll_1142, lr_1142, lt_1147, ll_1147, lr_1143, lt_1207, ll_1207, lr_1144, lt_1267, ll_1267, lr_1145, lt_1327, ll_1327, lr_1146, lt_1387, ll_1387, lr_1447, lt_1459, ll_1459, lr_1455, lt_1461, ll_1461, lr_1461, lt_1463, ll_1463, lr_1462, lt_1471, ll_1471, lr_1456, lt_1479, ll_1479, lr_1479, lt_1481, ll_1481, lr_1480, lt_1489, ll_1489, lr_1457, lt_1497, ll_1497, lr_1497, lt_1499, ll_1499, lr_1498, lt_1507, ll_1507, lr_1458, lt_1515, ll_1515, lr_1515, lt_1520, ll_1520, lr_1516, lt_1580, ll_1580, lr_1517, lt_1640, ll_1640, lr_1518, lt_1700, ll_1700, lr_1519, lt_1760, ll_1760]
      refine ⟨fun _ => ?_, fun h => absurd (by omega) h⟩
      refine hok k q i' j' n' rfl hk rfl hq rfl rfl rfl m1 m2 m3 m4 m5 x ?_ (fun w hw => ?_)
      · rw [hx, if_neg (by omega)]; exact G0
      · rw [hx]
        unfold hh_cpy
        by_cases c : 5771 + 40 * q + j' ≤ w ∧ w < 5771 + 40 * q + j' + n'
        · rw [if_pos c, if_pos (by split <;> omega), G _ (by omega)]
        · rw [if_neg c, if_neg (by split <;> omega), G _ hw]
    · intro c x hc hx ih
      refine h143 _ _ _ ?_
      simp only [hb_X10_copy_19, hb_X10_copy_45, hb_X10_copy_121, hb_X10_copy_204, hb_X10_copy_167, hb_X10_copy_160, hb_X10_copy_155, hb_X10_copy_150, hb_X10_copy_143, hb_X10_copy_138, hb_X10_copy_137, hb_X10_copy_133, hb_X10_copy_127, hb_X10_copy_103, hb_X10_copy_86, hb_X10_copy_81, hb_X10_copy_76, hb_X10_copy_72, hb_X10_copy_66, hb_X10_copy_51, hb_X10_copy_36, hb_X10_copy_22, hb_X10_copy_12, hb_X10_copy_0, hc_iconst, hc_lconst, hc_iload, hc_lload, hc_aload, hc_istore, hc_astore, hc_lstore, hc_iinc, hc_dup, hc_dup2, hc_pop, hc_iadd, hc_isub, hc_imul, hc_iaddw, hc_isubw, hc_imulw, hc_inegw, hc_idiv, hc_irem, hc_ineg, hc_b2, hc_b1, hc_i2l, hc_l2i, hc_ladd, hc_l2, hc_lsh, hc_lcmp, hc_if, hc_icmp, hc_jump, hc_getI, hc_getR, hc_putI, hc_putZ, hc_xald, hc_iast, hc_bast, hc_zast, hc_aald, hc_alen, hc_copy, hc_gets, hc_getsI, hc_sald, hc_ldcs, hc_sval, hc_scod, hc_slen, hc_sbald, hc_callI, hc_callL, hc_callV, hc_max, hc_min, hc_abs, hc_ireturn, hc_zreturn, hc_creturn, hc_lreturn, hc_return, hc_none, hc_switch, hv_sw, hv_get, hv_set, hv_set2, hv_mask, hv_fr, hv_noL, hv_pop, hv_pk, hv_isO, hv_isS, hv_any, hv_w, hv_cat, he_nil, he_i, he_r, he_l, hv_repl_0, hv_repl_s, if_true, if_false, and_true, true_and, and_self, Nat.zero_add, Nat.add_zero, Nat.reduceAdd, Nat.reduceLeDiff, List.length_cons, List.length_nil, Int.toNat_natCast, Bool.false_eq_true, reduceIte, Int.toNat_zero, Int.toNat_one, Int.reduceToNat, or_true, true_or, Int.reduceEq, Int.reduceLT, Int.reduceLE, Int.reduceNeg, Int.reduceAdd, Int.reduceSub, Int.reduceMul, Nat.reduceMul, Nat.reduceEqDiff, implies_true, false_implies, true_implies, not_true_eq_false, not_false_eq_true, ne_eq, or_false, false_or, and_false, false_and, or_self, Classical.not_not, Int.zero_add, Int.add_zero, lc_0, lc_22, lc_730, lc_902, lc_1074, lc_1447, lc_1824, lc_2081, lc_2135, lc_4258, lc_5723, lr_0, lt_14, ll_14, lr_2, lr_4, lr_5, lr_6, lr_7, lr_8, lt_1820, ll_1820, lr_9, lt_1822, ll_1822, lr_10, lr_11, lr_12, lr_13, lr_22, lt_30, ll_30, lr_1824, lt_1825, ll_1825, lr_2081, lt_2086, ll_2086, lr_2082, lt_2102, ll_2102, lr_2083, lt_2118, ll_2118, lr_2135, lt_2137, ll_2137, lr_4263, lt_4265, ll_4265, lr_5725, lt_5755, ll_5755, lr_5726, lt_5763, ll_5763, lr_5727, lt_5771, ll_5771, lr_5728, lt_6091, ll_6091, lr_5729, lt_6227, ll_6227, lr_5731, lt_6363, ll_6363, lr_5732, lt_6733, ll_6733, lr_5743, lt_7433, ll_7433, lr_5744, lt_7435, ll_7435, lr_5745, lt_7805, ll_7805, lr_5746, lt_7809, ll_7809, lr_5747, lt_8065, ll_8065, lr_5748, lt_8165, ll_8165, lr_5750, lt_8265, ll_8265, lr_5751, lt_8267, ll_8267, lr_5752, lt_8539, ll_8539, lr_5753, lt_9279, ll_9279, lr_731, lt_733, ll_733, lr_732, lt_899, ll_899, lr_903, lt_905, ll_905, lr_904, lt_1071, ll_1071, lr_1074, lt_1086, ll_1086, lr_1082, lt_1088, ll_1088, lr_1088, lt_1090, ll_1090, lr_1089, lt_1098, ll_1098, lr_1083, lt_1106, ll_1106, lr_1106, lt_1108, ll_1108, lr_1107, lt_1116, ll_1116, lr_1084, lt_1124, ll_1124, lr_1124, lt_1126, ll_1126, lr_1125, lt_1134, ll_1134, lr_1085, lt_1142, ll_1142, lr_1142, lt_1147, ll_1147, lr_1143, lt_1207, ll_1207, lr_1144, lt_1267, ll_1267, lr_1145, lt_1327, ll_1327, lr_1146, lt_1387, ll_1387, lr_1447, lt_1459, ll_1459, lr_1455, lt_1461, ll_1461, lr_1461, lt_1463, ll_1463, lr_1462, lt_1471, ll_1471, lr_1456, lt_1479, ll_1479, lr_1479, lt_1481, ll_1481, lr_1480, lt_1489, ll_1489, lr_1457, lt_1497, ll_1497, lr_1497, lt_1499, ll_1499, lr_1498, lt_1507, ll_1507, lr_1458, lt_1515, ll_1515, lr_1515, lt_1520, ll_1520, lr_1516, lt_1580, ll_1580, lr_1517, lt_1640, ll_1640, lr_1518, lt_1700, ll_1700, lr_1519, lt_1760, ll_1760]
      refine ⟨fun h => by omega, fun _ => ?_⟩
      by_cases hij : (i' : Int) < j'
      · rw [if_pos hij] at hz
        subst hz
        refine ⟨fun _ => ⟨⟨by omega, by omega⟩, ⟨by omega, by omega⟩, ⟨by omega, by omega⟩, ⟨by omega, by omega⟩, ⟨by omega, by omega⟩, ⟨by omega, by omega⟩, ⟨by omega, by omega⟩, ⟨by omega, by omega⟩, ⟨by omega, by omega⟩, ⟨by omega, by omega⟩, ⟨by omega, by omega⟩, ih _ ?_⟩, fun h => absurd rfl h⟩
        intro w
        have d1 : 5771 + (40 * (q : Int) + j' + ((n' : Int) - 1 - c)).toNat = 5771 + 40 * q + j' + (n' - 1 - c) := by omega
        have d2 : 5771 + (40 * (k : Int) + i' + ((n' : Int) - 1 - c)).toNat = 5771 + 40 * k + i' + (n' - 1 - c) := by omega
        rw [d1, d2]
        simp only [if_pos hij] at hx ⊢
        by_cases hw : w = 5771 + 40 * q + j' + (n' - 1 - c)
        · subst hw
          rw [hh_upd_same, hx, if_neg (by omega), if_pos (by omega)]
          congr 1; omega
        · rw [hh_upd_ne hw, hx]
          by_cases c2 : 5771 + 40 * q + j' + (n' - c) ≤ w ∧ w < 5771 + 40 * q + j' + n'
          · rw [if_pos c2, if_pos (by omega)]
          · rw [if_neg c2, if_neg (by omega)]
      · rw [if_neg hij] at hz
        subst hz
        refine ⟨fun h => absurd h (by decide), fun _ => ⟨⟨by omega, by omega⟩, ⟨by omega, by omega⟩, ⟨by omega, by omega⟩, ⟨by omega, by omega⟩, ⟨by omega, by omega⟩, ⟨by omega, by omega⟩, ⟨by omega, by omega⟩, ⟨by omega, by omega⟩, ⟨by omega, by omega⟩, ih _ ?_⟩⟩
        intro w
        have d1 : 5771 + (40 * (q : Int) + j' + (c : Int)).toNat = 5771 + 40 * q + j' + c := by omega
        have d2 : 5771 + (40 * (k : Int) + i' + (c : Int)).toNat = 5771 + 40 * k + i' + c := by omega
        rw [d1, d2]
        simp only [if_neg hij] at hx ⊢
        by_cases hw : w = 5771 + 40 * q + j' + c
        · subst hw
          rw [hh_upd_same, hx, if_neg (by omega), if_pos (by omega)]
          congr 1; omega
        · rw [hh_upd_ne hw, hx]
          by_cases c2 : 5771 + 40 * q + j' + 0 ≤ w ∧ w < 5771 + 40 * q + j' + c
          · rw [if_pos c2, if_pos (by omega)]
          · rw [if_neg c2, if_neg (by omega)]
    · intro w
      rw [if_neg (by split <;> omega)]
  have fd : ∀ z : Int, 0 ≤ z ∧ z ≤ 5 → (∀ x : hm, x 5724 = z → (∀ a, a ≠ 5723 ∧ a ≠ 5724 → x a = mem a) → Q (-1000010 - z) x) → hm_I l m_X10_finding 1 [Vr 5723, Vi z] x1 Q := fun z hz hh => sp_finding l hz (hh _ (hh_upd_same _ _ _) (fun a ha => by rw [hh_upd_ne (by omega)]; exact G a ha))
  refine ⟨⟨by omega, by omega⟩, fun n0 => fd 1 (by omega) (hnul k q rfl hk rfl hq (by omega)), fun n0 => ⟨⟨by omega, by omega⟩, fun n1 => ⟨⟨by omega, by omega⟩, ⟨by omega, by omega⟩, fun he => ?_, fun he => fd 5 (by omega) (hst k q rfl hk rfl hq (by omega) (by omega) (by omega))⟩, fun n1 => fd 1 (by omega) (hnul k q rfl hk rfl hq (by omega))⟩⟩
  have P2 : ¬ (0 ≤ i ∧ 0 ≤ j ∧ 0 ≤ n ∧ i + n ≤ mem (5763 + k) ∧ j + n ≤ mem (5763 + q)) → hm_I l m_X10_finding 1 [Vr 5723, Vi 2] x1 Q := fun hh => fd 2 (by omega) (hpl k q rfl hk rfl hq (by omega) (by omega) (by omega) hh)
  refine ⟨fun c => P2 (by omega), fun c => ⟨fun c => P2 (by omega), fun c => ⟨fun c => P2 (by omega), fun c => ⟨⟨by have := hi.1; have := hn.1; omega, by have := hi.2; have := hn.2; omega⟩, ⟨by omega, by omega⟩, fun c => ?_, fun c => ⟨⟨by have := hj.1; have := hn.1; omega, by have := hj.2; have := hn.2; omega⟩, ⟨by omega, by omega⟩, fun c => ?_, fun c => ?_⟩⟩⟩⟩⟩
  · rw [hv_cmp_gt] at c
    exact P2 (by omega)
  · rename_i c5
    rw [hv_cmp_gt] at c5
    rw [hv_cmp_le] at c
    obtain ⟨i', rfl⟩ := Int.eq_ofNat_of_zero_le (show 0 ≤ i by omega)
    obtain ⟨j', rfl⟩ := Int.eq_ofNat_of_zero_le (show 0 ≤ j by omega)
    obtain ⟨n', rfl⟩ := Int.eq_ofNat_of_zero_le (show 0 ≤ n by omega)
    refine ⟨fun hlt => key 0 i' j' n' rfl rfl rfl (by rw [if_pos hlt]) (by omega) (by omega) (by omega) (by omega) (by omega), fun hlt => key 1 i' j' n' rfl rfl rfl (by rw [if_neg hlt]) (by omega) (by omega) (by omega) (by omega) (by omega)⟩
  · rw [hv_cmp_le] at c
    exact P2 (by omega)
theorem pr_copy (l : Launch) {m : Nat} {x : hm} (hI : IV m x) {a i b j n : Int} (hi : hv_I i) (hj : hv_I j) (hn : hv_I n) : hm_I l m_X9_copy 2 [Vr 0, Vi a, Vi i, Vi b, Vi j, Vi n] x (fun r x1 => hm_I l m_X10_copy 3 [Vr 5723, Vi a, Vi i, Vi b, Vi j, Vi n] x1 (fun r2 x2 => r = r2 ∧ IV (m + 1) x2)) := by
  obtain ⟨j1, j2, j3, j4, j5, j6, j7, j8, j9, j10⟩ := hI
  have k1 : ∀ k, k < 8 → I1k k x := j1
  unfold I1k at k1
  have fnd : ∀ (z : Int) (x2 : hm), x2 5724 = z → (∀ a, a ≠ 5723 ∧ a ≠ 5724 → x2 a = hh_upd x 1 z a) → IV (m + 1) x2 := by
    intro z x2 f1 f2
    have F : ∀ a, a ≠ 1 ∧ a ≠ 5723 ∧ a ≠ 5724 → x2 a = x a := fun a ha => by rw [f2 a (by omega), hh_upd_ne (by omega)]
    refine ⟨(I1_congr (fun a ha => F a (by omega)) j1), ?_, (I3_congr (fun a ha => F a (by omega)) j3), (I4_congr (fun a ha => F a (by omega)) j4), (I5_congr (fun a ha => F a (by omega)) j5), (I6_congr (by omega) (fun a ha => F a (by omega)) j6), (I7_congr (by omega) (fun a ha => F a (by omega)) j7), (I8_congr (fun a ha => F a (by omega)) j8), (I9_congr (fun a ha => F a (by omega)) j9), (I10_congr (fun a ha => F a (by omega)) j10)⟩
    unfold I2
    rw [f1, f2 1 (by omega), hh_upd_same]
  have bb : ∀ z : Int, B1 (hh_upd x 1 z) := fun z => B1_congr (fun a ha => hh_upd_ne (by omega)) j1.B
  refine sp_c_copy l j1 (fun hb => ?_) (fun k q hk hk8 hq hq8 g1 => ?_) (fun k q hk hk8 hq hq8 g1 g2 g3 => ?_) (fun k q hk hk8 hq hq8 g1 g2 g3 g4 => ?_) (fun k q i' j' n' hk hk8 hq hq8 hi' hj' hn' g1 g2 g3 g4 g5 => ?_)
  · refine sp_m_copy l j1.B hi hj hn (fun _ x2 F => ?_) (fun _ _ _ _ _ _ _ => by omega) (fun _ _ _ _ _ _ _ => by omega) (fun _ _ _ _ _ _ _ => by omega) (fun _ _ _ _ _ _ _ _ _ => by omega)
    exact ⟨rfl, (I1_congr (fun a ha => F a (by omega)) j1), (I2_congr (fun a ha => F a (by omega)) j2), (I3_congr (fun a ha => F a (by omega)) j3), (I4_congr (fun a ha => F a (by omega)) j4), (I5_congr (fun a ha => F a (by omega)) j5), (I6_congr (by omega) (fun a ha => F a (by omega)) j6), (I7_congr (by omega) (fun a ha => F a (by omega)) j7), (I8_congr (fun a ha => F a (by omega)) j8), (I9_congr (fun a ha => F a (by omega)) j9), (I10_congr (fun a ha => F a (by omega)) j10)⟩
  · have h1 := k1 k hk8
    have h2 := k1 q hq8
    refine sp_m_copy l (bb 1) hi hj hn (fun h => by omega) (fun k2 q2 u1 u2 u3 u4 u5 x2 f1 f2 => ⟨rfl, fnd 1 x2 f1 f2⟩) (fun k2 q2 u1 u2 u3 u4 u5 u6 u7 => ?_) (fun k2 q2 u1 u2 u3 u4 u5 u6 u7 => ?_) (fun k2 q2 i2 j2 n2 u1 u2 u3 u4 v1 v2 v3 u5 u6 u7 => ?_)
    all_goals
      rw [hh_upd_ne (by omega)] at u5 u6
      have e1 : k2 = k := by omega
      have e2 : q2 = q := by omega
      subst e1 e2
      omega
  · have h1 := k1 k hk8
    have h2 := k1 q hq8
    refine sp_m_copy l (bb 5) hi hj hn (fun h => by omega) (fun k2 q2 u1 u2 u3 u4 u5 => ?_) (fun k2 q2 u1 u2 u3 u4 u5 u6 u7 x2 f1 f2 => ⟨rfl, fnd 5 x2 f1 f2⟩) (fun k2 q2 u1 u2 u3 u4 u5 u6 u7 => ?_) (fun k2 q2 i2 j2 n2 u1 u2 u3 u4 v1 v2 v3 u5 u6 u7 => ?_)
    · rw [hh_upd_ne (by omega), hh_upd_ne (by omega)] at u5
      have e1 : k2 = k := by omega
      have e2 : q2 = q := by omega
      subst e1 e2
      omega
    all_goals
      rw [hh_upd_ne (by omega), hh_upd_ne (by omega)] at u7
      have e1 : k2 = k := by omega
      have e2 : q2 = q := by omega
      subst e1 e2
      omega
  · have h1 := k1 k hk8
    have h2 := k1 q hq8
    refine sp_m_copy l (bb 2) hi hj hn (fun h => by omega) (fun k2 q2 u1 u2 u3 u4 u5 => ?_) (fun k2 q2 u1 u2 u3 u4 u5 u6 u7 => ?_) (fun k2 q2 u1 u2 u3 u4 u5 u6 u7 u8 x2 f1 f2 => ⟨rfl, fnd 2 x2 f1 f2⟩) (fun k2 q2 i2 j2 n2 u1 u2 u3 u4 v1 v2 v3 u5 u6 u7 u8 u9 => ?_)
    · rw [hh_upd_ne (by omega), hh_upd_ne (by omega)] at u5
      have e1 : k2 = k := by omega
      have e2 : q2 = q := by omega
      subst e1 e2
      omega
    · rw [hh_upd_ne (by omega), hh_upd_ne (by omega)] at u7
      have e1 : k2 = k := by omega
      have e2 : q2 = q := by omega
      subst e1 e2
      omega
    · rw [hh_upd_ne (by omega)] at u8 u9
      have e1 : k2 = k := by omega
      have e2 : q2 = q := by omega
      subst e1 e2
      omega
  · have h1 := k1 k hk8
    have h2 := k1 q hq8
    have E : ∀ a, a ≠ 1 ∧ ¬ (4285 + 44 * q ≤ a ∧ a < 4325 + 44 * q) → hh_upd (hh_cpy x (4285 + 44 * k) i' (4285 + 44 * q) j' n') 1 0 a = x a := fun a ha => by
      rw [hh_upd_ne ha.1]
      unfold hh_cpy
      rw [if_neg (by omega)]
    have E1 : ∀ w, w < 40 → hh_upd (hh_cpy x (4285 + 44 * k) i' (4285 + 44 * q) j' n') 1 0 (4285 + 44 * q + w) = if j' ≤ w ∧ w < j' + n' then x (4285 + 44 * k + (i' + (w - j'))) else x (4285 + 44 * q + w) := fun w hw => by
      rw [hh_upd_ne (by omega)]
      unfold hh_cpy
      by_cases c : j' ≤ w ∧ w < j' + n'
      · rw [if_pos c, if_pos (by omega)]; congr 1; omega
      · rw [if_neg c, if_neg (by omega)]
    have E2 : hh_upd (hh_cpy x (4285 + 44 * k) i' (4285 + 44 * q) j' n') 1 0 1 = 0 := hh_upd_same _ _ _
    generalize hh_upd (hh_cpy x (4285 + 44 * k) i' (4285 + 44 * q) j' n') 1 0 = y at E E1 E2
    refine sp_m_copy l (B1_congr (fun a ha => E a (by omega)) j1.B) hi hj hn (fun h => by omega) (fun k2 q2 u1 u2 u3 u4 u5 => ?_) (fun k2 q2 u1 u2 u3 u4 u5 u6 u7 => ?_) (fun k2 q2 u1 u2 u3 u4 u5 u6 u7 u8 => ?_) (fun k2 q2 i2 j2 n2 u1 u2 u3 u4 v1 v2 v3 u5 u6 u7 u8 u9 x2 f1 f2 => ?_)
    · rw [E _ (by omega), E _ (by omega)] at u5
      have e1 : k2 = k := by omega
      have e2 : q2 = q := by omega
      subst e1 e2
      omega
    · rw [E _ (by omega), E _ (by omega)] at u7
      have e1 : k2 = k := by omega
      have e2 : q2 = q := by omega
      subst e1 e2
      omega
    · rw [E _ (by omega), E _ (by omega)] at u8
      have e1 : k2 = k := by omega
      have e2 : q2 = q := by omega
      subst e1 e2
      omega
    · have e1 : k2 = k := by omega
      have e2 : q2 = q := by omega
      have e3 : i2 = i' := by omega
      have e4 : j2 = j' := by omega
      have e5 : n2 = n' := by omega
      subst e1 e2 e3 e4 e5
      have F : ∀ a, a ≠ 1 ∧ a ≠ 5723 ∧ a ≠ 5724 ∧ ¬ (4285 + 44 * q2 ≤ a ∧ a < 4325 + 44 * q2) ∧ ¬ (5771 + 40 * q2 ≤ a ∧ a < 5811 + 40 * q2) → x2 a = x a := fun a ha => by
        rw [f2 a (by omega)]
        unfold hh_cpy
        rw [if_neg (by omega), E a (by omega)]
      refine ⟨rfl, ?_, ?_, (I3_congr (fun a ha => F a (by omega)) j3), (I4_congr (fun a ha => F a (by omega)) j4), (I5_congr (fun a ha => F a (by omega)) j5), (I6_congr (by omega) (fun a ha => F a (by omega)) j6), (I7_congr (by omega) (fun a ha => F a (by omega)) j7), (I8_congr (fun a ha => F a (by omega)) j8), (I9_congr (fun a ha => F a (by omega)) j9), (I10_congr (fun a ha => F a (by omega)) j10)⟩
      · intro w hw
        have hw1 := k1 w hw
        unfold I1k
        rw [F (5755 + w) (by omega), F (4281 + 44 * w) (by omega), F (4281 + 44 * w + 1) (by omega), F (4281 + 44 * w + 2) (by omega), F (5763 + w) (by omega)]
        refine ⟨hw1.1, hw1.2.1, fun z hz => ?_⟩
        by_cases hwq : w = q2
        · subst hwq
          have n1 : ¬ (5771 + 40 * w + j2 ≤ 4285 + 44 * w + z ∧ 4285 + 44 * w + z < 5771 + 40 * w + j2 + n2) := by omega
          rw [f2 (4285 + 44 * w + z) (by omega), f2 (5771 + 40 * w + z) (by omega)]
          unfold hh_cpy
          rw [if_neg n1, E1 z hz]
          by_cases c : j2 ≤ z ∧ z < j2 + n2
          · rw [if_pos c, if_pos (by omega), E _ (by omega)]
            have := h1.2.2 (i2 + (z - j2)) (by omega)
            rw [this]; congr 1; omega
          · rw [if_neg c, if_neg (by omega), E _ (by omega)]
            exact hw1.2.2 z hz
        · rw [F _ (by omega), F _ (by omega)]
          exact hw1.2.2 z hz
      · unfold I2
        rw [f1, f2 1 (by omega)]
        unfold hh_cpy
        rw [if_neg (by omega), E2]
