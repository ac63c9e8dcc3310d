theorem hv_cmp_le (a b : Int) : hv_cmp a b ≤ 0 ↔ a ≤ b := by unfold hv_cmp; (repeat' split) <;> omega
theorem hv_cmp_gt (a b : Int) : 0 < hv_cmp a b ↔ b < a := by unfold hv_cmp; (repeat' split) <;> omega
theorem hv_cmp_lt (a b : Int) : hv_cmp a b < 0 ↔ a < b := by unfold hv_cmp; (repeat' split) <;> omega
theorem hv_cmp_ge (a b : Int) : 0 ≤ hv_cmp a b ↔ b ≤ a := by unfold hv_cmp; (repeat' split) <;> omega
theorem hv_cmp_eq (a b : Int) : hv_cmp a b = 0 ↔ a = b := by unfold hv_cmp; (repeat' split) <;> omega
theorem sp_holds (l : Launch) {k : Nat} (hk : k < 8) {i n : Int} {mem : hm} (hz : 0 ≤ mem (4281 + 44 * k + 2) ∧ mem (4281 + 44 * k + 2) ≤ 40) {Q : Int → hm → Prop} (h1 : 0 ≤ i → 0 ≤ n → i + n ≤ mem (4281 + 44 * k + 2) → Q 1 mem) (h0 : ¬ (0 ≤ i ∧ 0 ≤ n ∧ i + n ≤ mem (4281 + 44 * k + 2)) → Q 0 mem) : hm_I l m_X6_holds 1 [Vr (4281 + 44 * k), Vi i, Vi n] mem Q := by
  refine hr_X6_holds l (Nat.le_of_ble_eq_true rfl) ?_
  simp only [hb_X6_holds_31, hb_X6_holds_30, hb_X6_holds_26, hb_X6_holds_16, hb_X6_holds_8, hb_X6_holds_4, hb_X6_holds_0, hc_iconst, hc_lconst, hc_iload, hc_lload, hc_aload, hc_istore, hc_astore, hc_lstore, hc_iinc, hc_dup, hc_dup2, hc_pop, hc_iadd, hc_isub, hc_imul, hc_iaddw, hc_isubw, hc_imulw, hc_inegw, hc_idiv, hc_irem, hc_ineg, hc_b2, hc_b1, hc_i2l, hc_l2i, hc_ladd, hc_l2, hc_lsh, hc_lcmp, hc_if, hc_icmp, hc_jump, hc_getI, hc_getR, hc_putI, hc_putZ, hc_xald, hc_iast, hc_bast, hc_zast, hc_aald, hc_alen, hc_copy, hc_gets, hc_getsI, hc_sald, hc_ldcs, hc_sval, hc_scod, hc_slen, hc_sbald, hc_callI, hc_callL, hc_callV, hc_max, hc_min, hc_abs, hc_ireturn, hc_zreturn, hc_creturn, hc_lreturn, hc_return, hc_none, hc_switch, hv_sw, hv_get, hv_set, hv_set2, hv_mask, hv_fr, hv_noL, hv_pop, hv_pk, hv_isO, hv_isS, hv_any, hv_w, hv_cat, he_nil, he_i, he_r, he_l, hv_repl_0, hv_repl_s, if_true, if_false, and_true, true_and, and_self, Nat.zero_add, Nat.add_zero, Nat.reduceAdd, Nat.reduceLeDiff, List.length_cons, List.length_nil, Int.toNat_natCast, Bool.false_eq_true, reduceIte, Int.toNat_zero, Int.toNat_one, Int.reduceToNat, or_true, true_or, Int.reduceEq, Int.reduceLT, Int.reduceLE, Int.reduceNeg, Int.reduceAdd, Int.reduceSub, Int.reduceMul, Nat.reduceMul, Nat.reduceEqDiff, implies_true, false_implies, true_implies, not_true_eq_false, not_false_eq_true, ne_eq, or_false, false_or, and_false, false_and, or_self, Classical.not_not, Int.zero_add, Int.add_zero, ls_cls hk]
  (repeat' (first | (with_reducible refine And.intro ?_ ?_) | (with_reducible apply sp_within_a) | (with_reducible apply sp_within_b) | (with_reducible apply sp_in_a) | (with_reducible apply sp_in_b) | (with_reducible apply sp_isSheet_a) | (with_reducible apply sp_isSheet_b) | (with_reducible apply sp_isSide_a) | (with_reducible apply sp_isSide_b) | (with_reducible intro _))) <;> first | omega | (apply h1 <;> omega) | (apply h0; omega)
theorem sp_holds_a (l : Launch) {k : Nat} (hk : k < 8) {i n : Int} {mem : hm} (hz : 0 ≤ mem (4281 + 44 * k + 2) ∧ mem (4281 + 44 * k + 2) ≤ 40) {A B : hm → Prop} (h1 : 0 ≤ i → 0 ≤ n → i + n ≤ mem (4281 + 44 * k + 2) → B mem) (h0 : ¬ (0 ≤ i ∧ 0 ≤ n ∧ i + n ≤ mem (4281 + 44 * k + 2)) → A mem) : hm_I l m_X6_holds 1 [Vr (4281 + 44 * k), Vi i, Vi n] mem (fun r y => (r = 0 → A y) ∧ (¬ r = 0 → B y)) := sp_holds l hk hz (fun a b c => ⟨fun h => absurd h (by decide), fun _ => h1 a b c⟩) (fun a => ⟨fun _ => h0 a, fun h => absurd rfl h⟩)
theorem sp_holds_b (l : Launch) {k : Nat} (hk : k < 8) {i n : Int} {mem : hm} (hz : 0 ≤ mem (4281 + 44 * k + 2) ∧ mem (4281 + 44 * k + 2) ≤ 40) {A B : hm → Prop} (h1 : 0 ≤ i → 0 ≤ n → i + n ≤ mem (4281 + 44 * k + 2) → B mem) (h0 : ¬ (0 ≤ i ∧ 0 ≤ n ∧ i + n ≤ mem (4281 + 44 * k + 2)) → A mem) : hm_I l m_X6_holds 1 [Vr (4281 + 44 * k), Vi i, Vi n] mem (fun r y => (¬ r = 0 → B y) ∧ (r = 0 → A y)) := sp_holds l hk hz (fun a b c => ⟨fun _ => h1 a b c, fun h => absurd h (by decide)⟩) (fun a => ⟨fun h => absurd rfl h, fun _ => h0 a⟩)
/-- what a value becomes in a lane -/
def cutF (lane v : Int) : Int := if lane = 0 then hv_i2b v else if lane = 1 then hv_i2s v else v
theorem sp_cut (l : Launch) {k : Nat} (hk : k < 8) {v : Int} {mem : hm} {Q : Int → hm → Prop} (h : Q (cutF (mem (4281 + 44 * k + 1)) v) mem) : hm_I l m_X6_cut 1 [Vr (4281 + 44 * k), Vi v] mem Q := by
  refine hr_X6_cut l (Nat.le_of_ble_eq_true rfl) ?_
  simp only [hb_X6_cut_26, hb_X6_cut_25, hb_X6_cut_20, hb_X6_cut_12, hb_X6_cut_7, hb_X6_cut_0, hc_iconst, hc_lconst, hc_iload, hc_lload, hc_aload, hc_istore, hc_astore, hc_lstore, hc_iinc, hc_dup, hc_dup2, hc_pop, hc_iadd, hc_isub, hc_imul, hc_iaddw, hc_isubw, hc_imulw, hc_inegw, hc_idiv, hc_irem, hc_ineg, hc_b2, hc_b1, hc_i2l, hc_l2i, hc_ladd, hc_l2, hc_lsh, hc_lcmp, hc_if, hc_icmp, hc_jump, hc_getI, hc_getR, hc_putI, hc_putZ, hc_xald, hc_iast, hc_bast, hc_zast, hc_aald, hc_alen, hc_copy, hc_gets, hc_getsI, hc_sald, hc_ldcs, hc_sval, hc_scod, hc_slen, hc_sbald, hc_callI, hc_callL, hc_callV, hc_max, hc_min, hc_abs, hc_ireturn, hc_zreturn, hc_creturn, hc_lreturn, hc_return, hc_none, hc_switch, hv_sw, hv_get, hv_set, hv_set2, hv_mask, hv_fr, hv_noL, hv_pop, hv_pk, hv_isO, hv_isS, hv_any, hv_w, hv_cat, he_nil, he_i, he_r, he_l, hv_repl_0, hv_repl_s, if_true, if_false, and_true, true_and, and_self, Nat.zero_add, Nat.add_zero, Nat.reduceAdd, Nat.reduceLeDiff, List.length_cons, List.length_nil, Int.toNat_natCast, Bool.false_eq_true, reduceIte, Int.toNat_zero, Int.toNat_one, Int.reduceToNat, or_true, true_or, Int.reduceEq, Int.reduceLT, Int.reduceLE, Int.reduceNeg, Int.reduceAdd, Int.reduceSub, Int.reduceMul, Nat.reduceMul, Nat.reduceEqDiff, implies_true, false_implies, true_implies, not_true_eq_false, not_false_eq_true, ne_eq, or_false, false_or, and_false, false_and, or_self, Classical.not_not, Int.zero_add, Int.add_zero, ls_cls hk]
  unfold cutF at h
  refine ⟨fun h0 => ?_, fun h0 => ?_⟩
  · rw [if_neg h0] at h
    exact ⟨fun h1 => by rw [if_neg h1] at h; exact h, fun h1 => by rw [if_pos h1] at h; exact h⟩
  · rw [if_pos h0] at h; exact h
/-! sheet -/
theorem sp_c_sheet (l : Launch) {s lane n : Int} {mem : hm} {Q : Int → hm → Prop} (hbad : ¬ (0 ≤ s ∧ s < 8 ∧ 0 ≤ lane ∧ lane < 3 ∧ n ≤ 40) → Q (-1000001) mem) (hsz : 0 ≤ s → s < 8 → 0 ≤ lane → lane < 3 → n < 0 → Q (-1000014) (hh_upd mem 1 4))
    (hok : ∀ k : Nat, s = k → k < 8 → 0 ≤ lane → lane < 3 → 0 ≤ n → n ≤ 40 → ∀ x : hm, x (4281 + 44 * k) = 0 → x (4281 + 44 * k + 1) = lane → x (4281 + 44 * k + 2) = n → (∀ j, j < 40 → x (4285 + 44 * k + j) = 0) → x 1 = 0 → (∀ a, ¬ (4281 + 44 * k ≤ a ∧ a < 4325 + 44 * k) ∧ a ≠ 1 → x a = mem a) → Q n x) : hm_I l m_X9_sheet 2 [Vr 0, Vi s, Vi lane, Vi n] mem Q := by
  refine hr_X9_sheet l (Nat.le_of_ble_eq_true rfl) ?_
  simp only [hb_X9_sheet_23, hb_X9_sheet_36, hb_X9_sheet_30, hb_X9_sheet_26, hb_X9_sheet_17, hb_X9_sheet_9, hb_X9_sheet_0, hc_iconst, hc_lconst, hc_iload, hc_lload, hc_aload, hc_istore, hc_astore, hc_lstore, hc_iinc, hc_dup, hc_dup2, hc_pop, hc_iadd, hc_isub, hc_imul, hc_iaddw, hc_isubw, hc_imulw, hc_inegw, hc_idiv, hc_irem, hc_ineg, hc_b2, hc_b1, hc_i2l, hc_l2i, hc_ladd, hc_l2, hc_lsh, hc_lcmp, hc_if, hc_icmp, hc_jump, hc_getI, hc_getR, hc_putI, hc_putZ, hc_xald, hc_iast, hc_bast, hc_zast, hc_aald, hc_alen, hc_copy, hc_gets, hc_getsI, hc_sald, hc_ldcs, hc_sval, hc_scod, hc_slen, hc_sbald, hc_callI, hc_callL, hc_callV, hc_max, hc_min, hc_abs, hc_ireturn, hc_zreturn, hc_creturn, hc_lreturn, hc_return, hc_none, hc_switch, hv_sw, hv_get, hv_set, hv_set2, hv_mask, hv_fr, hv_noL, hv_pop, hv_pk, hv_isO, hv_isS, hv_any, hv_w, hv_cat, he_nil, he_i, he_r, he_l, hv_repl_0, hv_repl_s, if_true, if_false, and_true, true_and, and_self, Nat.zero_add, Nat.add_zero, Nat.reduceAdd, Nat.reduceLeDiff, List.length_cons, List.length_nil, Int.toNat_natCast, Bool.false_eq_true, reduceIte, Int.toNat_zero, Int.toNat_one, Int.reduceToNat, or_true, true_or, Int.reduceEq, Int.reduceLT, Int.reduceLE, Int.reduceNeg, Int.reduceAdd, Int.reduceSub, Int.reduceMul, Nat.reduceMul, Nat.reduceEqDiff, implies_true, false_implies, true_implies, not_true_eq_false, not_false_eq_true, ne_eq, or_false, false_or, and_false, false_and, or_self, Classical.not_not, Int.zero_add, Int.add_zero, lc_0, lc_22, lc_730, lc_902, lc_1074, lc_1447, lc_1824, lc_2081, lc_2135, lc_4258, lc_5723, lr_0, lt_14, ll_14, lr_2, lr_4, lr_5, lr_6, lr_7, lr_8, lt_1820, ll_1820, lr_9, lt_1822, ll_1822, lr_10, lr_11, lr_12, lr_13, lr_22, lt_30, ll_30, lr_1824, lt_1825, ll_1825, lr_2081, lt_2086, ll_2086, lr_2082, lt_2102, ll_2102, lr_2083, lt_2118, ll_2118, lr_2135, lt_2137, ll_2137, lr_4263, lt_4265, ll_4265, lr_5725, lt_5755, ll_5755, lr_5726, lt_5763, ll_5763, lr_5727, lt_5771, ll_5771, lr_5728, lt_6091, ll_6091, lr_5729, lt_6227, ll_6227, lr_5731, lt_6363, ll_6363, lr_5732, lt_6733, ll_6733, lr_5743, lt_7433, ll_7433, lr_5744, lt_7435, ll_7435, lr_5745, lt_7805, ll_7805, lr_5746, lt_7809, ll_7809, lr_5747, lt_8065, ll_8065, lr_5748, lt_8165, ll_8165, lr_5750, lt_8265, ll_8265, lr_5751, lt_8267, ll_8267, lr_5752, lt_8539, ll_8539, lr_5753, lt_9279, ll_9279, lr_731, lt_733, ll_733, lr_732, lt_899, ll_899, lr_903, lt_905, ll_905, lr_904, lt_1071, ll_1071, lr_1074, lt_1086, ll_1086, lr_1082, lt_1088, ll_1088, lr_1088, lt_1090, ll_1090, lr_1089, lt_1098, ll_1098, lr_1083, lt_1106, ll_1106, lr_1106, lt_1108, ll_1108, lr_1107, lt_1116, ll_1116, lr_1084, lt_1124, ll_1124, lr_1124, lt_1126, ll_1126, lr_1125, lt_1134, ll_1134, lr_1085, lt_1142, ll_1142, lr_1142, lt_1147, ll_1147, lr_1143, lt_1207, ll_1207, lr_1144, lt_1267, ll_1267, lr_1145, lt_1327, ll_1327, lr_1146, lt_1387, ll_1387, lr_1447, lt_1459, ll_1459, lr_1455, lt_1461, ll_1461, lr_1461, lt_1463, ll_1463, lr_1462, lt_1471, ll_1471, lr_1456, lt_1479, ll_1479, lr_1479, lt_1481, ll_1481, lr_1480, lt_1489, ll_1489, lr_1457, lt_1497, ll_1497, lr_1497, lt_1499, ll_1499, lr_1498, lt_1507, ll_1507, lr_1458, lt_1515, ll_1515, lr_1515, lt_1520, ll_1520, lr_1516, lt_1580, ll_1580, lr_1517, lt_1640, ll_1640, lr_1518, lt_1700, ll_1700, lr_1519, lt_1760, ll_1760]
  refine sp_within_a l (fun s0 s1 => ?_) (fun h => hbad (by omega))
  refine sp_within_a l (fun l0 l1 => ?_) (fun h => hbad (by omega))
  refine ⟨fun n1 => ⟨fun n0 => ?_, fun n0 => sp_found l (by omega) (hsz s0 s1 l0 l1 (by omega))⟩, fun n1 => hbad (by omega)⟩
  obtain ⟨k, rfl⟩ := Int.eq_ofNat_of_zero_le s0
  have hk : k < 8 := by omega
  rw [Int.toNat_natCast, lr_sheet hk]
  refine ⟨⟨by omega, by omega⟩, ls_cls hk, ?_⟩
  refine sp_lay l hk (fun x e1 e2 e3 e4 e5 => sp_well l ?_)
  refine hok k rfl hk l0 l1 n0 n1 _ ?_ ?_ ?_ (fun j hj => ?_) (hh_upd_same _ _ _) (fun a ha => ?_)
  · rw [hh_upd_ne (by omega)]; exact e1
  · rw [hh_upd_ne (by omega)]; exact e2
  · rw [hh_upd_ne (by omega)]; exact e3
  · rw [hh_upd_ne (by omega)]; exact e4 j hj
  · rw [hh_upd_ne (by omega)]; exact e5 a (by omega)
theorem sp_m_sheet (l : Launch) {s lane n : Int} {mem : hm} {Q : Int → hm → Prop} (hbad : ¬ (0 ≤ s ∧ s < 8 ∧ 0 ≤ lane ∧ lane < 3 ∧ n ≤ 40) → ∀ x : hm, (∀ a, a ≠ 5723 → x a = mem a) → Q (-1000001) x) (hsz : 0 ≤ s → s < 8 → 0 ≤ lane → lane < 3 → n < 0 → ∀ x : hm, x 5724 = 4 → (∀ a, a ≠ 5723 ∧ a ≠ 5724 → x a = mem a) → Q (-1000014) x)
    (hok : ∀ k : Nat, s = k → k < 8 → 0 ≤ lane → lane < 3 → 0 ≤ n → n ≤ 40 → ∀ x : hm, x (5755 + k) = lane → x (5763 + k) = n → (∀ j, j < 40 → x (5771 + 40 * k + j) = 0) → x 5724 = 0 → (∀ a, ¬ (a = 5755 + k ∨ a = 5763 + k ∨ (5771 + 40 * k ≤ a ∧ a < 5811 + 40 * k)) ∧ a ≠ 5723 ∧ a ≠ 5724 → x a = mem a) → Q n x) : hm_I l m_X10_sheet 3 [Vr 5723, Vi s, Vi lane, Vi n] mem Q := by
  refine hr_X10_sheet l (Nat.le_of_ble_eq_true rfl) ?_
  intro At h65
  simp only [hb_X10_sheet_30, hb_X10_sheet_91, hb_X10_sheet_72, hb_X10_sheet_65, hb_X10_sheet_48, hb_X10_sheet_42, hb_X10_sheet_33, hb_X10_sheet_24, hb_X10_sheet_12, hb_X10_sheet_0, hc_iconst, hc_lconst, hc_iload, hc_lload, hc_aload, hc_istore, hc_astore, hc_lstore, hc_iinc, hc_dup, hc_dup2, hc_pop, hc_iadd, hc_isub, hc_imul, hc_iaddw, hc_isubw, hc_imulw, hc_inegw, hc_idiv, hc_irem, hc_ineg, hc_b2, hc_b1, hc_i2l, hc_l2i, hc_ladd, hc_l2, hc_lsh, hc_lcmp, hc_if, hc_icmp, hc_jump, hc_getI, hc_getR, hc_putI, hc_putZ, hc_xald, hc_iast, hc_bast, hc_zast, hc_aald, hc_alen, hc_copy, hc_gets, hc_getsI, hc_sald, hc_ldcs, hc_sval, hc_scod, hc_slen, hc_sbald, hc_callI, hc_callL, hc_callV, hc_max, hc_min, hc_abs, hc_ireturn, hc_zreturn, hc_creturn, hc_lreturn, hc_return, hc_none, hc_switch, hv_sw, hv_get, hv_set, hv_set2, hv_mask, hv_fr, hv_noL, hv_pop, hv_pk, hv_isO, hv_isS, hv_any, hv_w, hv_cat, he_nil, he_i, he_r, he_l, hv_repl_0, hv_repl_s, if_true, if_false, and_true, true_and, and_self, Nat.zero_add, Nat.add_zero, Nat.reduceAdd, Nat.reduceLeDiff, List.length_cons, List.length_nil, Int.toNat_natCast, Bool.false_eq_true, reduceIte, Int.toNat_zero, Int.toNat_one, Int.reduceToNat, or_true, true_or, Int.reduceEq, Int.reduceLT, Int.reduceLE, Int.reduceNeg, Int.reduceAdd, Int.reduceSub, Int.reduceMul, Nat.reduceMul, Nat.reduceEqDiff, implies_true, false_implies, true_implies, not_true_eq_false, not_false_eq_true, ne_eq, or_false, false_or, and_false, false_and, or_self, Classical.not_not, Int.zero_add, Int.add_zero, lc_0, lc_22, lc_730, lc_902, lc_1074, lc_1447, lc_1824, lc_2081, lc_2135, lc_4258, lc_5723, lr_0, lt_14, ll_14, lr_2, lr_4, lr_5, lr_6, lr_7, lr_8, lt_1820, ll_1820, lr_9, lt_1822, ll_1822, lr_10, lr_11, lr_12, lr_13, lr_22, lt_30, ll_30, lr_1824, lt_1825, ll_1825, lr_2081, lt_2086, ll_2086, lr_2082, lt_2102, ll_2102, lr_2083, lt_2118, ll_2118, lr_2135, lt_2137, ll_2137, lr_4263, lt_4265, ll_4265, lr_5725, lt_5755, ll_5755, lr_5726, lt_5763, ll_5763, lr_5727, lt_5771, ll_5771, lr_5728, lt_6091, ll_6091, lr_5729, lt_6227, ll_6227, lr_5731, lt_6363, ll_6363, lr_5732, lt_6733, ll_6733, lr_5743, lt_7433, ll_7433, lr_5744, lt_7435, ll_7435, lr_5745, lt_7805, ll_7805, lr_5746, lt_7809, ll_7809, lr_5747, lt_8065, ll_8065, lr_5748, lt_8165, ll_8165, lr_5750, lt_8265, ll_8265, lr_5751, lt_8267, ll_8267, lr_5752, lt_8539, ll_8539, lr_5753, lt_9279, ll_9279, lr_731, lt_733, ll_733, lr_732, lt_899, ll_899, lr_903, lt_905, ll_905, lr_904, lt_1071, ll_1071, lr_1074, lt_1086, ll_1086, lr_1082, lt_1088, ll_1088, lr_1088, lt_1090, ll_1090, lr_1089, lt_1098, ll_1098, lr_1083, lt_1106, ll_1106, lr_1106, lt_1108, ll_1108, lr_1107, lt_1116, ll_1116, lr_1084, lt_1124, ll_1124, lr_1124, lt_1126, ll_1126, lr_1125, lt_1134, ll_1134, lr_1085, lt_1142, ll_1142, lr_1142, lt_1147, ll_1147, lr_1143, lt_1207, ll_1207, lr_1144, lt_1267, ll_1267, lr_1145, lt_1327, ll_1327, lr_1146, lt_1387, ll_1387, lr_1447, lt_1459, ll_1459, lr_1455, lt_1461, ll_1461, lr_1461, lt_1463, ll_1463, lr_1462, lt_1471, ll_1471, lr_1456, lt_1479, ll_1479, lr_1479, lt_1481, ll_1481, lr_1480, lt_1489, ll_1489, lr_1457, lt_1497, ll_1497, lr_1497, lt_1499, ll_1499, lr_1498, lt_1507, ll_1507, lr_1458, lt_1515, ll_1515, lr_1515, lt_1520, ll_1520, lr_1516, lt_1580, ll_1580, lr_1517, lt_1640, ll_1640, lr_1518, lt_1700, ll_1700, lr_1519, lt_1760, ll_1760]
  refine sp_isSheet_a l (fun s0 s1 => ?_) (fun h => hbad (by omega) _ (fun a ha => hh_upd_ne ha))
  refine sp_in_a l (fun l0 l1 => ?_) (fun h => hbad (by omega) _ (fun a ha => hh_upd_ne ha))
  refine ⟨fun n1 => ⟨fun n0 => ?_, fun n0 => sp_finding l (by omega) (hsz s0 (by omega) l0 (by omega) (by omega) _ (hh_upd_same _ _ _) (fun a ha => by rw [hh_upd_ne (by omega), hh_upd_ne (by omega), hh_upd_ne (by omega)]))⟩, fun n1 => hbad (by omega) _ (fun a ha => hh_upd_ne ha)⟩
  obtain ⟨k, rfl⟩ := Int.eq_ofNat_of_zero_le s0
  have hk : k < 8 := by omega
  rw [Int.toNat_natCast]
  refine ⟨⟨by omega, by omega⟩, ⟨by omega, by omega⟩, ?_⟩
  refine lp_up 40 (G := fun j x => At 65 [some (Vr 5723), some (Vi k), none, some (Vi n), some (Vi j)] [] x) (P := fun j x => x (5755 + k) = lane ∧ x (5763 + k) = n ∧ (∀ i, i < j → x (5771 + 40 * k + i) = 0) ∧ x 5724 = 0 ∧ (∀ a, ¬ (a = 5755 + k ∨ a = 5763 + k ∨ (5771 + 40 * k ≤ a ∧ a < 5811 + 40 * k)) ∧ a ≠ 5723 ∧ a ≠ 5724 → x a = mem a)) ?_ ?_ 0 _ (by omega) ?_
  · intro x hx
    refine h65 _ _ _ ?_
    simp only [hb_X10_sheet_30, hb_X10_sheet_91, hb_X10_sheet_72, hb_X10_sheet_65, hb_X10_sheet_48, hb_X10_sheet_42, hb_X10_sheet_33, hb_X10_sheet_24, hb_X10_sheet_12, hb_X10_sheet_0, hc_iconst, hc_lconst, hc_iload, hc_lload, hc_aload, hc_istore, hc_astore, hc_lstore, hc_iinc, hc_dup, hc_dup2, hc_pop, hc_iadd, hc_isub, hc_imul, hc_iaddw, hc_isubw, hc_imulw, hc_inegw, hc_idiv, hc_irem, hc_ineg, hc_b2, hc_b1, hc_i2l, hc_l2i, hc_ladd, hc_l2, hc_lsh, hc_lcmp, hc_if, hc_icmp, hc_jump, hc_getI, hc_getR, hc_putI, hc_putZ, hc_xald, hc_iast, hc_bast, hc_zast, hc_aald, hc_alen, hc_copy, hc_gets, hc_getsI, hc_sald, hc_ldcs, hc_sval, hc_scod, hc_slen, hc_sbald, hc_callI, hc_callL, hc_callV, hc_max, hc_min, hc_abs, hc_ireturn, hc_zreturn, hc_creturn, hc_lreturn, hc_return, hc_none, hc_switch, hv_sw, hv_get, hv_set, hv_set2, hv_mask, hv_fr, hv_noL, hv_pop, hv_pk, hv_isO, hv_isS, hv_any, hv_w, hv_cat, he_nil, he_i, he_r, he_l, hv_repl_0, hv_repl_s, if_true, if_false, and_true, true_and, and_self, Nat.zero_add, Nat.add_zero, Nat.reduceAdd, Nat.reduceLeDiff, List.length_cons, List.length_nil, Int.toNat_natCast, Bool.false_eq_true, reduceIte, Int.toNat_zero, Int.toNat_one, Int.reduceToNat, or_true, true_or, Int.reduceEq, Int.reduceLT, Int.reduceLE, Int.reduceNeg, Int.reduceAdd, Int.reduceSub, Int.reduceMul, Nat.reduceMul, Nat.reduceEqDiff, implies_true, false_implies, true_implies, not_true_eq_false, not_false_eq_true, ne_eq, or_false, false_or, and_false, false_and, or_self, Classical.not_not, Int.zero_add, Int.add_zero, lc_0, lc_22, lc_730, lc_902, lc_1074, lc_1447, lc_1824, lc_2081, lc_2135, lc_4258, lc_5723, lr_0, lt_14, ll_14, lr_2, lr_4, lr_5, lr_6, lr_7, lr_8, lt_1820, ll_1820, lr_9, lt_1822, ll_1822, lr_10, lr_11, lr_12, lr_13, lr_22, lt_30, ll_30, lr_1824, lt_1825, ll_1825, lr_2081, lt_2086, ll_2086, lr_2082, lt_2102, ll_2102, lr_2083, lt_2118, ll_2118, lr_2135, lt_2137, ll_2137, lr_4263, lt_4265, ll_4265, lr_5725, lt_5755, ll_5755, lr_5726, lt_5763, ll_5763, lr_5727, lt_5771, ll_5771, lr_5728, lt_6091, ll_6091, lr_5729, lt_6227, ll_6227, lr_5731, lt_6363, ll_6363, lr_5732, lt_6733, ll_6733, lr_5743, lt_7433, ll_7433, lr_5744, lt_7435, ll_7435, lr_5745, lt_7805, ll_7805, lr_5746, lt_7809, ll_7809, lr_5747, lt_8065, ll_8065, lr_5748, lt_8165, ll_8165, lr_5750, lt_8265, ll_8265, lr_5751, lt_8267, ll_8267, lr_5752, lt_8539, ll_8539, lr_5753, lt_9279, ll_9279, lr_731, lt_733, ll_733, lr_732, lt_899, ll_899, lr_903, lt_905, ll_905, lr_904, lt_1071, ll_1071, lr_1074, lt_1086, ll_1086, lr_1082, lt_1088, ll_1088, lr_1088, lt_1090, ll_1090, lr_1089, lt_1098, ll_1098, lr_1083, lt_1106, ll_1106, lr_1106, lt_1108, ll_1108, lr_1107, lt_1116, ll_1116, lr_1084, lt_1124, ll_1124, lr_1124, lt_1126, ll_1126, lr_1125, lt_1134, ll_1134, lr_1085, lt_1142, ll_1142, lr_1142, lt_1147, ll_1147, lr_1143, lt_1207, ll_1207, lr_1144, lt_1267, ll_1267, lr_1145, lt_1327, ll_1327, lr_1146, lt_1387, ll_1387, lr_1447, lt_1459, ll_1459, lr_1455, lt_1461, ll_1461, lr_1461, lt_1463, ll_1463, lr_1462, lt_1471, ll_1471, lr_1456, lt_1479, ll_1479, lr_1479, lt_1481, ll_1481, lr_1480, lt_1489, ll_1489, lr_1457, lt_1497, ll_1497, lr_1497, lt_1499, ll_1499, lr_1498, lt_1507, ll_1507, lr_1458, lt_1515, ll_1515, lr_1515, lt_1520, ll_1520, lr_1516, lt_1580, ll_1580, lr_1517, lt_1640, ll_1640, lr_1518, lt_1700, ll_1700, lr_1519, lt_1760, ll_1760]
    exact ⟨fun _ => hok k rfl hk l0 (by omega) n0 n1 x hx.1 hx.2.1 hx.2.2.1 hx.2.2.2.1 hx.2.2.2.2, fun h => absurd (by omega) h⟩
  · intro j x hj hx ih
    refine h65 _ _ _ ?_
    simp only [hb_X10_sheet_30, hb_X10_sheet_91, hb_X10_sheet_72, hb_X10_sheet_65, hb_X10_sheet_48, hb_X10_sheet_42, hb_X10_sheet_33, hb_X10_sheet_24, hb_X10_sheet_12, hb_X10_sheet_0, hc_iconst, hc_lconst, hc_iload, hc_lload, hc_aload, hc_istore, hc_astore, hc_lstore, hc_iinc, hc_dup, hc_dup2, hc_pop, hc_iadd, hc_isub, hc_imul, hc_iaddw, hc_isubw, hc_imulw, hc_inegw, hc_idiv, hc_irem, hc_ineg, hc_b2, hc_b1, hc_i2l, hc_l2i, hc_ladd, hc_l2, hc_lsh, hc_lcmp, hc_if, hc_icmp, hc_jump, hc_getI, hc_getR, hc_putI, hc_putZ, hc_xald, hc_iast, hc_bast, hc_zast, hc_aald, hc_alen, hc_copy, hc_gets, hc_getsI, hc_sald, hc_ldcs, hc_sval, hc_scod, hc_slen, hc_sbald, hc_callI, hc_callL, hc_callV, hc_max, hc_min, hc_abs, hc_ireturn, hc_zreturn, hc_creturn, hc_lreturn, hc_return, hc_none, hc_switch, hv_sw, hv_get, hv_set, hv_set2, hv_mask, hv_fr, hv_noL, hv_pop, hv_pk, hv_isO, hv_isS, hv_any, hv_w, hv_cat, he_nil, he_i, he_r, he_l, hv_repl_0, hv_repl_s, if_true, if_false, and_true, true_and, and_self, Nat.zero_add, Nat.add_zero, Nat.reduceAdd, Nat.reduceLeDiff, List.length_cons, List.length_nil, Int.toNat_natCast, Bool.false_eq_true, reduceIte, Int.toNat_zero, Int.toNat_one, Int.reduceToNat, or_true, true_or, Int.reduceEq, Int.reduceLT, Int.reduceLE, Int.reduceNeg, Int.reduceAdd, Int.reduceSub, Int.reduceMul, Nat.reduceMul, Nat.reduceEqDiff, implies_true, false_implies, true_implies, not_true_eq_false, not_false_eq_true, ne_eq, or_false, false_or, and_false, false_and, or_self, Classical.not_not, Int.zero_add, Int.add_zero, lc_0, lc_22, lc_730, lc_902, lc_1074, lc_1447, lc_1824, lc_2081, lc_2135, lc_4258, lc_5723, lr_0, lt_14, ll_14, lr_2, lr_4, lr_5, lr_6, lr_7, lr_8, lt_1820, ll_1820, lr_9, lt_1822, ll_1822, lr_10, lr_11, lr_12, lr_13, lr_22, lt_30, ll_30, lr_1824, lt_1825, ll_1825, lr_2081, lt_2086, ll_2086, lr_2082, lt_2102, ll_2102, lr_2083, lt_2118, ll_2118, lr_2135, lt_2137, ll_2137, lr_4263, lt_4265, ll_4265, lr_5725, lt_5755, ll_5755, lr_5726, lt_5763, ll_5763, lr_5727, lt_5771, ll_5771, lr_5728, lt_6091, ll_6091, lr_5729, lt_6227, ll_6227, lr_5731, lt_6363, ll_6363, lr_5732, lt_6733, ll_6733, lr_5743, lt_7433, ll_7433, lr_5744, lt_7435, ll_7435, lr_5745, lt_7805, ll_7805, lr_5746, lt_7809, ll_7809, lr_5747, lt_8065, ll_8065, lr_5748, lt_8165, ll_8165, lr_5750, lt_8265, ll_8265, lr_5751, lt_8267, ll_8267, lr_5752, lt_8539, ll_8539, lr_5753, lt_9279, ll_9279, lr_731, lt_733, ll_733, lr_732, lt_899, ll_899, lr_903, lt_905, ll_905, lr_904, lt_1071, ll_1071, lr_1074, lt_1086, ll_1086, lr_1082, lt_1088, ll_1088, lr_1088, lt_1090, ll_1090, lr_1089, lt_1098, ll_1098, lr_1083, lt_1106, ll_1106, lr_1106, lt_1108, ll_1108, lr_1107, lt_1116, ll_1116, lr_1084, lt_1124, ll_1124, lr_1124, lt_1126, ll_1126, lr_1125, lt_1134, ll_1134, lr_1085, lt_1142, ll_1142, lr_1142, lt_1147, ll_1147, lr_1143, lt_1207, ll_1207, lr_1144, lt_1267, ll_1267, lr_1145, lt_1327, ll_1327, lr_1146, lt_1387, ll_1387, lr_1447, lt_1459, ll_1459, lr_1455, lt_1461, ll_1461, lr_1461, lt_1463, ll_1463, lr_1462, lt_1471, ll_1471, lr_1456, lt_1479, ll_1479, lr_1479, lt_1481, ll_1481, lr_1480, lt_1489, ll_1489, lr_1457, lt_1497, ll_1497, lr_1497, lt_1499, ll_1499, lr_1498, lt_1507, ll_1507, lr_1458, lt_1515, ll_1515, lr_1515, lt_1520, ll_1520, lr_1516, lt_1580, ll_1580, lr_1517, lt_1640, ll_1640, lr_1518, lt_1700, ll_1700, lr_1519, lt_1760, ll_1760]
    refine ⟨fun h => by omega, fun _ => ⟨⟨by omega, by omega⟩, ⟨by omega, by omega⟩, ⟨by omega, by omega⟩, ⟨by omega, by omega⟩, ih _ ?_⟩⟩
    have e : 5771 + (40 * (k : Int) + j).toNat = 5771 + 40 * k + j := by omega
    rw [e]
    obtain ⟨h1, h2, h3, h4, h5⟩ := hx
    refine ⟨?_, ?_, ?_, ?_, ?_⟩
    · rw [hh_upd_ne (by omega)]; exact h1
    · rw [hh_upd_ne (by omega)]; exact h2
    · intro i hi
      by_cases e : i = j
      · subst e; rw [hh_upd_same]
      · rw [hh_upd_ne (by omega)]; exact h3 i (by omega)
    · rw [hh_upd_ne (by omega)]; exact h4
    · intro a ha
      rw [hh_upd_ne (by omega)]; exact h5 a ha
  · refine ⟨?_, ?_, ?_, ?_, ?_⟩
    · (first | (simp only [hh_upd, reduceIte]; done) | (simp only [hh_upd, reduceIte]; (repeat' split) <;> first | rfl | omega | assumption))
    · (first | (simp only [hh_upd, reduceIte]; done) | (simp only [hh_upd, reduceIte]; (repeat' split) <;> first | rfl | omega | assumption))
    · intro i hi; omega
    · (first | (simp only [hh_upd, reduceIte]; done) | (simp only [hh_upd, reduceIte]; (repeat' split) <;> first | rfl | omega | assumption))
    · intro a ha
      (first | (simp only [hh_upd, reduceIte]; done) | (simp only [hh_upd, reduceIte]; (repeat' split) <;> first | rfl | omega | assumption))
theorem pr_sheet (l : Launch) {n : Nat} {x : hm} (hI : IV n x) {s lane m : Int} : hm_I l m_X9_sheet 2 [Vr 0, Vi s, Vi lane, Vi m] x (fun r x1 => hm_I l m_X10_sheet 3 [Vr 5723, Vi s, Vi lane, Vi m] x1 (fun r2 x2 => r = r2 ∧ IV (n + 1) x2)) := by
  obtain ⟨j1, j2, j3, j4, j5, j6, j7, j8, j9, j10⟩ := hI
  refine sp_c_sheet l (fun hb => ?_) (fun s0 s1 l0 l1 m0 => ?_) (fun k hs hk l0 l1 m0 m1 x1 e1 e2 e3 e4 e5 e6 => ?_)
  · refine sp_m_sheet l (fun _ x2 F => ?_) (fun _ _ _ _ _ => by omega) (fun k hs hk l0 l1 m0 m1 => by omega)
    exact ⟨rfl, (I1_congr (fun a ha => F a (by omega)) j1), (I2_congr (fun a ha => F a (by omega)) j2), (I3_congr (fun a ha => F a (by omega)) j3), (I4_congr (fun a ha => F a (by omega)) j4), (I5_congr (fun a ha => F a (by omega)) j5), (I6_congr (by omega) (fun a ha => F a (by omega)) j6), (I7_congr (by omega) (fun a ha => F a (by omega)) j7), (I8_congr (fun a ha => F a (by omega)) j8), (I9_congr (fun a ha => F a (by omega)) j9), (I10_congr (fun a ha => F a (by omega)) j10)⟩
  · refine sp_m_sheet l (fun h => by omega) (fun _ _ _ _ _ x2 f1 f2 => ?_) (fun k hs hk l0 l1 m0 m1 => by omega)
    have F : ∀ a, a ≠ 1 ∧ a ≠ 5723 ∧ a ≠ 5724 → x2 a = x a := fun a ha => by rw [f2 a (by omega), hh_upd_ne (by omega)]
    refine ⟨rfl, (I1_congr (fun a ha => F a (by omega)) j1), ?_, (I3_congr (fun a ha => F a (by omega)) j3), (I4_congr (fun a ha => F a (by omega)) j4), (I5_congr (fun a ha => F a (by omega)) j5), (I6_congr (by omega) (fun a ha => F a (by omega)) j6), (I7_congr (by omega) (fun a ha => F a (by omega)) j7), (I8_congr (fun a ha => F a (by omega)) j8), (I9_congr (fun a ha => F a (by omega)) j9), (I10_congr (fun a ha => F a (by omega)) j10)⟩
    unfold I2
    rw [f1, f2 1 (by omega), hh_upd_same]
  · refine sp_m_sheet l (fun h => by omega) (fun _ _ _ _ _ => by omega) (fun k2 hs2 hk2 _ _ _ _ x2 f1 f2 f3 f4 f5 => ?_)
    have hkk : k2 = k := by omega
    subst hkk
    have F : ∀ a, ¬ (4281 + 44 * k2 ≤ a ∧ a < 4325 + 44 * k2) ∧ ¬ (a = 5755 + k2 ∨ a = 5763 + k2 ∨ (5771 + 40 * k2 ≤ a ∧ a < 5811 + 40 * k2)) ∧ a ≠ 1 ∧ a ≠ 5723 ∧ a ≠ 5724 → x2 a = x a := fun a ha => by rw [f5 a (by omega), e6 a (by omega)]
    refine ⟨rfl, ?_, ?_, (I3_congr (fun a ha => F a (by omega)) j3), (I4_congr (fun a ha => F a (by omega)) j4), (I5_congr (fun a ha => F a (by omega)) j5), (I6_congr (by omega) (fun a ha => F a (by omega)) j6), (I7_congr (by omega) (fun a ha => F a (by omega)) j7), (I8_congr (fun a ha => F a (by omega)) j8), (I9_congr (fun a ha => F a (by omega)) j9), (I10_congr (fun a ha => F a (by omega)) j10)⟩
    · intro q hq
      by_cases hqk : q = k2
      · subst hqk
        unfold I1k
        rw [f1, f2, f5 (4281 + 44 * q) (by omega), f5 (4281 + 44 * q + 1) (by omega), f5 (4281 + 44 * q + 2) (by omega), e1, e2, e3]
        exact ⟨Or.inr ⟨l0, by omega, rfl, rfl⟩, ⟨m0, m1, rfl⟩, fun j hj => by rw [f3 j hj, f5 _ (by omega), e4 j hj]⟩
      · have h1 := j1 q hq
        unfold I1k at h1 ⊢
        rw [F (5755 + q) (by omega), F (4281 + 44 * q) (by omega), F (4281 + 44 * q + 1) (by omega), F (4281 + 44 * q + 2) (by omega), F (5763 + q) (by omega)]
        exact ⟨h1.1, h1.2.1, fun j hj => by rw [F _ (by omega), F _ (by omega)]; exact h1.2.2 j hj⟩
    · unfold I2
      rw [f4, f5 1 (by omega), e5]
def B1 (x : hm) : Prop := ∀ k, k < 8 → -1 ≤ x (5755 + k) ∧ x (5755 + k) ≤ 2 ∧ 0 ≤ x (5763 + k) ∧ x (5763 + k) ≤ 40
theorem I1.B {x : hm} (h : I1 x) : B1 x := fun k hk => by
  have := h k hk
  unfold I1k at this
  omega
theorem B1_congr {x y : hm} (h : ∀ a, 5755 ≤ a ∧ a < 5771 → y a = x a) (hx : B1 x) : B1 y := fun k hk => by
  rw [h _ (by omega), h _ (by omega)]
  exact hx k hk
/-! set -/
theorem sp_c_set (l : Launch) {s i v : Int} {mem : hm} (hI : I1 mem) {Q : Int → hm → Prop} (hbad : ¬ (0 ≤ s ∧ s < 8) → Q (-1000001) mem) (hnul : ∀ k : Nat, s = k → k < 8 → mem (4281 + 44 * k) = 1 → Q (-1000011) (hh_upd mem 1 1)) (hpl : ∀ k : Nat, s = k → k < 8 → mem (4281 + 44 * k) = 0 → ¬ (0 ≤ i ∧ i < mem (4281 + 44 * k + 2)) → Q (-1000012) (hh_upd mem 1 2))
    (hok : ∀ k j : Nat, s = k → k < 8 → i = j → mem (4281 + 44 * k) = 0 → (j : Int) < mem (4281 + 44 * k + 2) → Q (cutF (mem (4281 + 44 * k + 1)) v) (hh_upd (hh_upd mem (4285 + 44 * k + j) (cutF (mem (4281 + 44 * k + 1)) v)) 1 0)) : hm_I l m_X9_set 2 [Vr 0, Vi s, Vi i, Vi v] mem Q := by
  refine hr_X9_set l (Nat.le_of_ble_eq_true rfl) ?_
  simp only [hb_X9_set_50, hb_X9_set_44, hb_X9_set_34, hb_X9_set_28, hb_X9_set_12, hb_X9_set_9, hb_X9_set_0, hc_iconst, hc_lconst, hc_iload, hc_lload, hc_aload, hc_istore, hc_astore, hc_lstore, hc_iinc, hc_dup, hc_dup2, hc_pop, hc_iadd, hc_isub, hc_imul, hc_iaddw, hc_isubw, hc_imulw, hc_inegw, hc_idiv, hc_irem, hc_ineg, hc_b2, hc_b1, hc_i2l, hc_l2i, hc_ladd, hc_l2, hc_lsh, hc_lcmp, hc_if, hc_icmp, hc_jump, hc_getI, hc_getR, hc_putI, hc_putZ, hc_xald, hc_iast, hc_bast, hc_zast, hc_aald, hc_alen, hc_copy, hc_gets, hc_getsI, hc_sald, hc_ldcs, hc_sval, hc_scod, hc_slen, hc_sbald, hc_callI, hc_callL, hc_callV, hc_max, hc_min, hc_abs, hc_ireturn, hc_zreturn, hc_creturn, hc_lreturn, hc_return, hc_none, hc_switch, hv_sw, hv_get, hv_set, hv_set2, hv_mask, hv_fr, hv_noL, hv_pop, hv_pk, hv_isO, hv_isS, hv_any, hv_w, hv_cat, he_nil, he_i, he_r, he_l, hv_repl_0, hv_repl_s, if_true, if_false, and_true, true_and, and_self, Nat.zero_add, Nat.add_zero, Nat.reduceAdd, Nat.reduceLeDiff, List.length_cons, List.length_nil, Int.toNat_natCast, Bool.false_eq_true, reduceIte, Int.toNat_zero, Int.toNat_one, Int.reduceToNat, or_true, true_or, Int.reduceEq, Int.reduceLT, Int.reduceLE, Int.reduceNeg, Int.reduceAdd, Int.reduceSub, Int.reduceMul, Nat.reduceMul, Nat.reduceEqDiff, implies_true, false_implies, true_implies, not_true_eq_false, not_false_eq_true, ne_eq, or_false, false_or, and_false, false_and, or_self, Classical.not_not, Int.zero_add, Int.add_zero, lc_0, lc_22, lc_730, lc_902, lc_1074, lc_1447, lc_1824, lc_2081, lc_2135, lc_4258, lc_5723, lr_0, lt_14, ll_14, lr_2, lr_4, lr_5, lr_6, lr_7, lr_8, lt_1820, ll_1820, lr_9, lt_1822, ll_1822, lr_10, lr_11, lr_12, lr_13, lr_22, lt_30, ll_30, lr_1824, lt_1825, ll_1825, lr_2081, lt_2086, ll_2086, lr_2082, lt_2102, ll_2102, lr_2083, lt_2118, ll_2118, lr_2135, lt_2137, ll_2137, lr_4263, lt_4265, ll_4265, lr_5725, lt_5755, ll_5755, lr_5726, lt_5763, ll_5763, lr_5727, lt_5771, ll_5771, lr_5728, lt_6091, ll_6091, lr_5729, lt_6227, ll_6227, lr_5731, lt_6363, ll_6363, lr_5732, lt_6733, ll_6733, lr_5743, lt_7433, ll_7433, lr_5744, lt_7435, ll_7435, lr_5745, lt_7805, ll_7805, lr_5746, lt_7809, ll_7809, lr_5747, lt_8065, ll_8065, lr_5748, lt_8165, ll_8165, lr_5750, lt_8265, ll_8265, lr_5751, lt_8267, ll_8267, lr_5752, lt_8539, ll_8539, lr_5753, lt_9279, ll_9279, lr_731, lt_733, ll_733, lr_732, lt_899, ll_899, lr_903, lt_905, ll_905, lr_904, lt_1071, ll_1071, lr_1074, lt_1086, ll_1086, lr_1082, lt_1088, ll_1088, lr_1088, lt_1090, ll_1090, lr_1089, lt_1098, ll_1098, lr_1083, lt_1106, ll_1106, lr_1106, lt_1108, ll_1108, lr_1107, lt_1116, ll_1116, lr_1084, lt_1124, ll_1124, lr_1124, lt_1126, ll_1126, lr_1125, lt_1134, ll_1134, lr_1085, lt_1142, ll_1142, lr_1142, lt_1147, ll_1147, lr_1143, lt_1207, ll_1207, lr_1144, lt_1267, ll_1267, lr_1145, lt_1327, ll_1327, lr_1146, lt_1387, ll_1387, lr_1447, lt_1459, ll_1459, lr_1455, lt_1461, ll_1461, lr_1461, lt_1463, ll_1463, lr_1462, lt_1471, ll_1471, lr_1456, lt_1479, ll_1479, lr_1479, lt_1481, ll_1481, lr_1480, lt_1489, ll_1489, lr_1457, lt_1497, ll_1497, lr_1497, lt_1499, ll_1499, lr_1498, lt_1507, ll_1507, lr_1458, lt_1515, ll_1515, lr_1515, lt_1520, ll_1520, lr_1516, lt_1580, ll_1580, lr_1517, lt_1640, ll_1640, lr_1518, lt_1700, ll_1700, lr_1519, lt_1760, ll_1760]
  refine sp_within_b l (fun s0 s1 => ?_) (fun h => hbad (by omega))
  obtain ⟨k, rfl⟩ := Int.eq_ofNat_of_zero_le s0
  have hk : k < 8 := by omega
  have hk1 := hI k hk
  unfold I1k at hk1
  rw [Int.toNat_natCast, lr_sheet hk]
  simp only [ls_cls hk, ls_rf hk, ls_tag hk, ls_len hk, true_and]
  refine ⟨⟨by omega, by omega⟩, fun h0 => ?_, fun h0 => ?_⟩
  · refine sp_holds_b l hk (by omega) (fun g1 g2 g3 => ?_) (fun g => sp_found l (by omega) (hpl k rfl hk h0 (by omega)))
    obtain ⟨j, rfl⟩ := Int.eq_ofNat_of_zero_le g1
    refine sp_cut l hk ?_
    refine ⟨⟨by omega, by omega⟩, ⟨by omega, by omega⟩, ?_⟩
    rw [Int.toNat_natCast, hh_upd_same]
    exact sp_well l (hok k j rfl hk rfl h0 (by omega))
  · exact sp_found l (by omega) (hnul k rfl hk (by omega))
theorem sp_m_set (l : Launch) {s i v : Int} {mem : hm} (hI : B1 mem) {Q : Int → hm → Prop} (hbad : ¬ (0 ≤ s ∧ s < 8) → ∀ x : hm, (∀ a, a ≠ 5723 → x a = mem a) → Q (-1000001) x) (hnul : ∀ k : Nat, s = k → k < 8 → mem (5755 + k) < 0 → ∀ x : hm, x 5724 = 1 → (∀ a, a ≠ 5723 ∧ a ≠ 5724 → x a = mem a) → Q (-1000011) x) (hpl : ∀ k : Nat, s = k → k < 8 → 0 ≤ mem (5755 + k) → ¬ (0 ≤ i ∧ i < mem (5763 + k)) → ∀ x : hm, x 5724 = 2 → (∀ a, a ≠ 5723 ∧ a ≠ 5724 → x a = mem a) → Q (-1000012) x)
    (hok : ∀ k j : Nat, s = k → k < 8 → i = j → 0 ≤ mem (5755 + k) → (j : Int) < mem (5763 + k) → ∀ x : hm, x 5724 = 0 → x (5771 + 40 * k + j) = cutF (mem (5755 + k)) v → (∀ a, a ≠ 5771 + 40 * k + j ∧ a ≠ 5723 ∧ a ≠ 5724 → x a = mem a) → Q (cutF (mem (5755 + k)) v) x) : hm_I l m_X10_set 3 [Vr 5723, Vi s, Vi i, Vi v] mem Q := by
  refine hr_X10_set l (Nat.le_of_ble_eq_true rfl) ?_
  simp only [hb_X10_set_99, hb_X10_set_98, hb_X10_set_93, hb_X10_set_83, hb_X10_set_78, hb_X10_set_59, hb_X10_set_53, hb_X10_set_35, hb_X10_set_29, hb_X10_set_15, hb_X10_set_12, hb_X10_set_0, hc_iconst, hc_lconst, hc_iload, hc_lload, hc_aload, hc_istore, hc_astore, hc_lstore, hc_iinc, hc_dup, hc_dup2, hc_pop, hc_iadd, hc_isub, hc_imul, hc_iaddw, hc_isubw, hc_imulw, hc_inegw, hc_idiv, hc_irem, hc_ineg, hc_b2, hc_b1, hc_i2l, hc_l2i, hc_ladd, hc_l2, hc_lsh, hc_lcmp, hc_if, hc_icmp, hc_jump, hc_getI, hc_getR, hc_putI, hc_putZ, hc_xald, hc_iast, hc_bast, hc_zast, hc_aald, hc_alen, hc_copy, hc_gets, hc_getsI, hc_sald, hc_ldcs, hc_sval, hc_scod, hc_slen, hc_sbald, hc_callI, hc_callL, hc_callV, hc_max, hc_min, hc_abs, hc_ireturn, hc_zreturn, hc_creturn, hc_lreturn, hc_return, hc_none, hc_switch, hv_sw, hv_get, hv_set, hv_set2, hv_mask, hv_fr, hv_noL, hv_pop, hv_pk, hv_isO, hv_isS, hv_any, hv_w, hv_cat, he_nil, he_i, he_r, he_l, hv_repl_0, hv_repl_s, if_true, if_false, and_true, true_and, and_self, Nat.zero_add, Nat.add_zero, Nat.reduceAdd, Nat.reduceLeDiff, List.length_cons, List.length_nil, Int.toNat_natCast, Bool.false_eq_true, reduceIte, Int.toNat_zero, Int.toNat_one, Int.reduceToNat, or_true, true_or, Int.reduceEq, Int.reduceLT, Int.reduceLE, Int.reduceNeg, Int.reduceAdd, Int.reduceSub, Int.reduceMul, Nat.reduceMul, Nat.reduceEqDiff, implies_true, false_implies, true_implies, not_true_eq_false, not_false_eq_true, ne_eq, or_false, false_or, and_false, false_and, or_self, Classical.not_not, Int.zero_add, Int.add_zero, lc_0, lc_22, lc_730, lc_902, lc_1074, lc_1447, lc_1824, lc_2081, lc_2135, lc_4258, lc_5723, lr_0, lt_14, ll_14, lr_2, lr_4, lr_5, lr_6, lr_7, lr_8, lt_1820, ll_1820, lr_9, lt_1822, ll_1822, lr_10, lr_11, lr_12, lr_13, lr_22, lt_30, ll_30, lr_1824, lt_1825, ll_1825, lr_2081, lt_2086, ll_2086, lr_2082, lt_2102, ll_2102, lr_2083, lt_2118, ll_2118, lr_2135, lt_2137, ll_2137, lr_4263, lt_4265, ll_4265, lr_5725, lt_5755, ll_5755, lr_5726, lt_5763, ll_5763, lr_5727, lt_5771, ll_5771, lr_5728, lt_6091, ll_6091, lr_5729, lt_6227, ll_6227, lr_5731, lt_6363, ll_6363, lr_5732, lt_6733, ll_6733, lr_5743, lt_7433, ll_7433, lr_5744, lt_7435, ll_7435, lr_5745, lt_7805, ll_7805, lr_5746, lt_7809, ll_7809, lr_5747, lt_8065, ll_8065, lr_5748, lt_8165, ll_8165, lr_5750, lt_8265, ll_8265, lr_5751, lt_8267, ll_8267, lr_5752, lt_8539, ll_8539, lr_5753, lt_9279, ll_9279, lr_731, lt_733, ll_733, lr_732, lt_899, ll_899, lr_903, lt_905, ll_905, lr_904, lt_1071, ll_1071, lr_1074, lt_1086, ll_1086, lr_1082, lt_1088, ll_1088, lr_1088, lt_1090, ll_1090, lr_1089, lt_1098, ll_1098, lr_1083, lt_1106, ll_1106, lr_1106, lt_1108, ll_1108, lr_1107, lt_1116, ll_1116, lr_1084, lt_1124, ll_1124, lr_1124, lt_1126, ll_1126, lr_1125, lt_1134, ll_1134, lr_1085, lt_1142, ll_1142, lr_1142, lt_1147, ll_1147, lr_1143, lt_1207, ll_1207, lr_1144, lt_1267, ll_1267, lr_1145, lt_1327, ll_1327, lr_1146, lt_1387, ll_1387, lr_1447, lt_1459, ll_1459, lr_1455, lt_1461, ll_1461, lr_1461, lt_1463, ll_1463, lr_1462, lt_1471, ll_1471, lr_1456, lt_1479, ll_1479, lr_1479, lt_1481, ll_1481, lr_1480, lt_1489, ll_1489, lr_1457, lt_1497, ll_1497, lr_1497, lt_1499, ll_1499, lr_1498, lt_1507, ll_1507, lr_1458, lt_1515, ll_1515, lr_1515, lt_1520, ll_1520, lr_1516, lt_1580, ll_1580, lr_1517, lt_1640, ll_1640, lr_1518, lt_1700, ll_1700, lr_1519, lt_1760, ll_1760]
  refine sp_isSheet_b l (fun s0 s1 => ?_) (fun h => hbad (by omega) _ (fun a ha => hh_upd_ne ha))
  obtain ⟨k, rfl⟩ := Int.eq_ofNat_of_zero_le s0
  have hk : k < 8 := by omega
  have hk1 := hI k hk
  rw [Int.toNat_natCast]
  generalize hx1 : hh_upd (hh_upd mem 5723 0) 5724 0 = x1
  have G : ∀ a, a ≠ 5723 ∧ a ≠ 5724 → x1 a = mem a := fun a ha => by rw [← hx1]; (first | (simp only [hh_upd, reduceIte]; done) | (simp only [hh_upd, reduceIte]; (repeat' split) <;> first | rfl | omega | assumption))
  have G0 : x1 5724 = 0 := by rw [← hx1]; (first | (simp only [hh_upd, reduceIte]; done) | (simp only [hh_upd, reduceIte]; (repeat' split) <;> first | rfl | omega | assumption))
  have e1 := G (5755 + k) (by omega)
  have e2 := G (5763 + k) (by omega)
  refine ⟨⟨by omega, by omega⟩, fun h0 => ?_, fun h0 => ?_⟩
  · refine ⟨⟨by omega, by omega⟩, ⟨by omega, by omega⟩, ?_⟩
    refine sp_in_b l (fun g1 g2 => ?_) (fun g => sp_finding l (by omega) (hpl k rfl hk (by omega) (by omega) _ (hh_upd_same _ _ _) (fun a ha => by rw [hh_upd_ne (by omega)]; exact G a ha)))
    obtain ⟨j, rfl⟩ := Int.eq_ofNat_of_zero_le g1
    have e : 5771 + (40 * (k : Int) + j).toNat = 5771 + 40 * k + j := by omega
    rw [e]
    have hq := hok k j rfl hk rfl (by omega) (by omega)
    have key : ∀ z : Int, z = cutF (mem (5755 + k)) v → Q (hh_upd x1 (5771 + 40 * k + j) z (5771 + 40 * k + j)) (hh_upd x1 (5771 + 40 * k + j) z) := by
      rintro z rfl
      rw [hh_upd_same]
      exact hq _ (by rw [hh_upd_ne (by omega)]; exact G0) (hh_upd_same _ _ _) (fun a ha => by rw [hh_upd_ne (by omega)]; exact G a (by omega))
    unfold cutF at key
    rw [← e1] at key
    refine ⟨⟨by omega, by omega⟩, ⟨by omega, by omega⟩, ⟨by omega, by omega⟩, fun c0 => ⟨⟨by omega, by omega⟩, fun c1 => ?_, fun c1 => ?_⟩, fun c0 => ?_⟩
    · exact ⟨⟨by omega, by omega⟩, ⟨by omega, by omega⟩, ⟨by omega, by omega⟩, ⟨by omega, by omega⟩, key _ (by rw [if_neg c0, if_neg c1])⟩
    · exact ⟨⟨by omega, by omega⟩, ⟨by omega, by omega⟩, ⟨by omega, by omega⟩, ⟨by omega, by omega⟩, key _ (by rw [if_neg c0, if_pos c1])⟩
    · exact ⟨⟨by omega, by omega⟩, ⟨by omega, by omega⟩, ⟨by omega, by omega⟩, ⟨by omega, by omega⟩, key _ (by rw [if_pos c0])⟩
  · exact sp_finding l (by omega) (hnul k rfl hk (by omega) _ (hh_upd_same _ _ _) (fun a ha => by rw [hh_upd_ne (by omega)]; exact G a ha))
theorem pr_set (l : Launch) {n : Nat} {x : hm} (hI : IV n x) {s i v : Int} : hm_I l m_X9_set 2 [Vr 0, Vi s, Vi i, Vi v] x (fun r x1 => hm_I l m_X10_set 3 [Vr 5723, Vi s, Vi i, Vi v] x1 (fun r2 x2 => r = r2 ∧ IV (n + 1) x2)) := by
  obtain ⟨j1, j2, j3, j4, j5, j6, j7, j8, j9, j10⟩ := hI
  have k1 : ∀ k, k < 8 → I1k k x := j1
  unfold I1k at k1
  refine sp_c_set l j1 (fun hb => ?_) (fun k hs hk g1 => ?_) (fun k hs hk g1 g2 => ?_) (fun k j hs hk hj g1 g2 => ?_)
  · refine sp_m_set l j1.B (fun _ x2 F => ?_) (fun k hs hk _ => by omega) (fun k hs hk _ _ => by omega) (fun k j hs hk _ _ _ => by omega)
    exact ⟨rfl, (I1_congr (fun a ha => F a (by omega)) j1), (I2_congr (fun a ha => F a (by omega)) j2), (I3_congr (fun a ha => F a (by omega)) j3), (I4_congr (fun a ha => F a (by omega)) j4), (I5_congr (fun a ha => F a (by omega)) j5), (I6_congr (by omega) (fun a ha => F a (by omega)) j6), (I7_congr (by omega) (fun a ha => F a (by omega)) j7), (I8_congr (fun a ha => F a (by omega)) j8), (I9_congr (fun a ha => F a (by omega)) j9), (I10_congr (fun a ha => F a (by omega)) j10)⟩
  · have h1 := k1 k hk
    refine sp_m_set l (B1_congr (fun a ha => hh_upd_ne (by omega)) j1.B) (fun h => by omega) (fun k2 hs2 hk2 q1 x2 f1 f2 => ?_) (fun k2 hs2 hk2 q1 q2 => ?_) (fun k2 j2 hs2 hk2 hj2 q1 q2 => ?_)
    · have F : ∀ a, a ≠ 1 ∧ a ≠ 5723 ∧ a ≠ 5724 → x2 a = x a := fun a ha => by rw [f2 a (by omega), hh_upd_ne (by omega)]
      refine ⟨rfl, (I1_congr (fun a ha => F a (by omega)) j1), ?_, (I3_congr (fun a ha => F a (by omega)) j3), (I4_congr (fun a ha => F a (by omega)) j4), (I5_congr (fun a ha => F a (by omega)) j5), (I6_congr (by omega) (fun a ha => F a (by omega)) j6), (I7_congr (by omega) (fun a ha => F a (by omega)) j7), (I8_congr (fun a ha => F a (by omega)) j8), (I9_congr (fun a ha => F a (by omega)) j9), (I10_congr (fun a ha => F a (by omega)) j10)⟩
      unfold I2
      rw [f1, f2 1 (by omega), hh_upd_same]
    · rw [hh_upd_ne (by omega)] at q1
      have : k2 = k := by omega
      subst this
      omega
    · rw [hh_upd_ne (by omega)] at q1
      have : k2 = k := by omega
      subst this
      omega
  · have h1 := k1 k hk
    refine sp_m_set l (B1_congr (fun a ha => hh_upd_ne (by omega)) j1.B) (fun h => by omega) (fun k2 hs2 hk2 q1 => ?_) (fun k2 hs2 hk2 q1 q2 x2 f1 f2 => ?_) (fun k2 j2 hs2 hk2 hj2 q1 q2 => ?_)
    · rw [hh_upd_ne (by omega)] at q1
      have : k2 = k := by omega
      subst this
      omega
    · have F : ∀ a, a ≠ 1 ∧ a ≠ 5723 ∧ a ≠ 5724 → x2 a = x a := fun a ha => by rw [f2 a (by omega), hh_upd_ne (by omega)]
      refine ⟨rfl, (I1_congr (fun a ha => F a (by omega)) j1), ?_, (I3_congr (fun a ha => F a (by omega)) j3), (I4_congr (fun a ha => F a (by omega)) j4), (I5_congr (fun a ha => F a (by omega)) j5), (I6_congr (by omega) (fun a ha => F a (by omega)) j6), (I7_congr (by omega) (fun a ha => F a (by omega)) j7), (I8_congr (fun a ha => F a (by omega)) j8), (I9_congr (fun a ha => F a (by omega)) j9), (I10_congr (fun a ha => F a (by omega)) j10)⟩
      unfold I2
      rw [f1, f2 1 (by omega), hh_upd_same]
    · rw [hh_upd_ne (by omega)] at q1 q2
      have : k2 = k := by omega
      subst this
      omega
  · have h1 := k1 k hk
    generalize hw : cutF (x (4281 + 44 * k + 1)) v = w
    have E : ∀ a, a ≠ 4285 + 44 * k + j ∧ a ≠ 1 → hh_upd (hh_upd x (4285 + 44 * k + j) w) 1 0 a = x a := fun a ha => by rw [hh_upd_ne (by omega), hh_upd_ne (by omega)]
    have E1 : hh_upd (hh_upd x (4285 + 44 * k + j) w) 1 0 (4285 + 44 * k + j) = w := by rw [hh_upd_ne (by omega), hh_upd_same]
    have E2 : hh_upd (hh_upd x (4285 + 44 * k + j) w) 1 0 1 = 0 := hh_upd_same _ _ _
    generalize hh_upd (hh_upd x (4285 + 44 * k + j) w) 1 0 = y at E E1 E2
    refine sp_m_set l (B1_congr (fun a ha => E a (by omega)) j1.B) (fun h => by omega) (fun k2 hs2 hk2 q1 => ?_) (fun k2 hs2 hk2 q1 q2 => ?_) (fun k2 j2 hs2 hk2 hj2 q1 q2 x2 f1 f2 f3 => ?_)
    · rw [E _ (by omega)] at q1
      have : k2 = k := by omega
      subst this
      omega
    · rw [E _ (by omega)] at q1 q2
      have : k2 = k := by omega
      subst this
      omega
    · have hkk : k2 = k := by omega
      subst hkk
      have hjj : j2 = j := by omega
      subst hjj
      rw [E _ (by omega)] at q1 q2 f2
      rw [E _ (by omega)]
      have hw2 : cutF (x (5755 + k2)) v = w := by rw [← hw]; congr 1; omega
      rw [hw2] at f2 ⊢
      have F : ∀ a, a ≠ 4285 + 44 * k2 + j2 ∧ a ≠ 5771 + 40 * k2 + j2 ∧ a ≠ 1 ∧ a ≠ 5723 ∧ a ≠ 5724 → x2 a = x a := fun a ha => by rw [f3 a (by omega), E a (by omega)]
      refine ⟨rfl, ?_, ?_, (I3_congr (fun a ha => F a (by omega)) j3), (I4_congr (fun a ha => F a (by omega)) j4), (I5_congr (fun a ha => F a (by omega)) j5), (I6_congr (by omega) (fun a ha => F a (by omega)) j6), (I7_congr (by omega) (fun a ha => F a (by omega)) j7), (I8_congr (fun a ha => F a (by omega)) j8), (I9_congr (fun a ha => F a (by omega)) j9), (I10_congr (fun a ha => F a (by omega)) j10)⟩
      · intro q hq
        have h1 := k1 q hq
        unfold I1k
        rw [F (5755 + q) (by omega), F (4281 + 44 * q) (by omega), F (4281 + 44 * q + 1) (by omega), F (4281 + 44 * q + 2) (by omega), F (5763 + q) (by omega)]
        refine ⟨h1.1, h1.2.1, fun i hi => ?_⟩
        by_cases hqi : q = k2 ∧ i = j2
        · obtain ⟨rfl, rfl⟩ := hqi
          rw [f2, f3 _ (by omega), E1]
        · rw [F _ (by omega), F _ (by omega)]; exact h1.2.2 i hi
      · unfold I2
        rw [f1, f3 1 (by omega), E2]
/-! drop -/
theorem sp_c_drop (l : Launch) {s : Int} {mem : hm} (hI : I1 mem) {Q : Int → hm → Prop} (hbad : ¬ (0 ≤ s ∧ s < 8) → Q (-1000001) mem) (hnul : ∀ k : Nat, s = k → k < 8 → mem (4281 + 44 * k) = 1 → Q (-1000011) (hh_upd mem 1 1))
    (hok : ∀ k : Nat, s = k → k < 8 → mem (4281 + 44 * k) = 0 → Q (mem (4281 + 44 * k + 2)) (hh_upd (hh_upd mem (4281 + 44 * k) 1) 1 0)) : hm_I l m_X9_drop 2 [Vr 0, Vi s] mem Q := by
  refine hr_X9_drop l (Nat.le_of_ble_eq_true rfl) ?_
  simp only [hb_X9_drop_32, hb_X9_drop_26, hb_X9_drop_12, hb_X9_drop_9, hb_X9_drop_0, hc_iconst, hc_lconst, hc_iload, hc_lload, hc_aload, hc_istore, hc_astore, hc_lstore, hc_iinc, hc_dup, hc_dup2, hc_pop, hc_iadd, hc_isub, hc_imul, hc_iaddw, hc_isubw, hc_imulw, hc_inegw, hc_idiv, hc_irem, hc_ineg, hc_b2, hc_b1, hc_i2l, hc_l2i, hc_ladd, hc_l2, hc_lsh, hc_lcmp, hc_if, hc_icmp, hc_jump, hc_getI, hc_getR, hc_putI, hc_putZ, hc_xald, hc_iast, hc_bast, hc_zast, hc_aald, hc_alen, hc_copy, hc_gets, hc_getsI, hc_sald, hc_ldcs, hc_sval, hc_scod, hc_slen, hc_sbald, hc_callI, hc_callL, hc_callV, hc_max, hc_min, hc_abs, hc_ireturn, hc_zreturn, hc_creturn, hc_lreturn, hc_return, hc_none, hc_switch, hv_sw, hv_get, hv_set, hv_set2, hv_mask, hv_fr, hv_noL, hv_pop, hv_pk, hv_isO, hv_isS, hv_any, hv_w, hv_cat, he_nil, he_i, he_r, he_l, hv_repl_0, hv_repl_s, if_true, if_false, and_true, true_and, and_self, Nat.zero_add, Nat.add_zero, Nat.reduceAdd, Nat.reduceLeDiff, List.length_cons, List.length_nil, Int.toNat_natCast, Bool.false_eq_true, reduceIte, Int.toNat_zero, Int.toNat_one, Int.reduceToNat, or_true, true_or, Int.reduceEq, Int.reduceLT, Int.reduceLE, Int.reduceNeg, Int.reduceAdd, Int.reduceSub, Int.reduceMul, Nat.reduceMul, Nat.reduceEqDiff, implies_true, false_implies, true_implies, not_true_eq_false, not_false_eq_true, ne_eq, or_false, false_or, and_false, false_and, or_self, Classical.not_not, Int.zero_add, Int.add_zero, lc_0, lc_22, lc_730, lc_902, lc_1074, lc_1447, lc_1824, lc_2081, lc_2135, lc_4258, lc_5723, lr_0, lt_14, ll_14, lr_2, lr_4, lr_5, lr_6, lr_7, lr_8, lt_1820, ll_1820, lr_9, lt_1822, ll_1822, lr_10, lr_11, lr_12, lr_13, lr_22, lt_30, ll_30, lr_1824, lt_1825, ll_1825, lr_2081, lt_2086, ll_2086, lr_2082, lt_2102, ll_2102, lr_2083, lt_2118, ll_2118, lr_2135, lt_2137, ll_2137, lr_4263, lt_4265, ll_4265, lr_5725, lt_5755, ll_5755, lr_5726, lt_5763, ll_5763, lr_5727, lt_5771, ll_5771, lr_5728, lt_6091, ll_6091, lr_5729, lt_6227, ll_6227, lr_5731, lt_6363, ll_6363, lr_5732, lt_6733, ll_6733, lr_5743, lt_7433, ll_7433, lr_5744, lt_7435, ll_7435, lr_5745, lt_7805, ll_7805, lr_5746, lt_7809, ll_7809, lr_5747, lt_8065, ll_8065, lr_5748, lt_8165, ll_8165, lr_5750, lt_8265, ll_8265, lr_5751, lt_8267, ll_8267, lr_5752, lt_8539, ll_8539, lr_5753, lt_9279, ll_9279, lr_731, lt_733, ll_733, lr_732, lt_899, ll_899, lr_903, lt_905, ll_905, lr_904, lt_1071, ll_1071, lr_1074, lt_1086, ll_1086, lr_1082, lt_1088, ll_1088, lr_1088, lt_1090, ll_1090, lr_1089, lt_1098, ll_1098, lr_1083, lt_1106, ll_1106, lr_1106, lt_1108, ll_1108, lr_1107, lt_1116, ll_1116, lr_1084, lt_1124, ll_1124, lr_1124, lt_1126, ll_1126, lr_1125, lt_1134, ll_1134, lr_1085, lt_1142, ll_1142, lr_1142, lt_1147, ll_1147, lr_1143, lt_1207, ll_1207, lr_1144, lt_1267, ll_1267, lr_1145, lt_1327, ll_1327, lr_1146, lt_1387, ll_1387, lr_1447, lt_1459, ll_1459, lr_1455, lt_1461, ll_1461, lr_1461, lt_1463, ll_1463, lr_1462, lt_1471, ll_1471, lr_1456, lt_1479, ll_1479, lr_1479, lt_1481, ll_1481, lr_1480, lt_1489, ll_1489, lr_1457, lt_1497, ll_1497, lr_1497, lt_1499, ll_1499, lr_1498, lt_1507, ll_1507, lr_1458, lt_1515, ll_1515, lr_1515, lt_1520, ll_1520, lr_1516, lt_1580, ll_1580, lr_1517, lt_1640, ll_1640, lr_1518, lt_1700, ll_1700, lr_1519, lt_1760, ll_1760]
  refine sp_within_b l (fun s0 s1 => ?_) (fun h => hbad (by omega))
  obtain ⟨k, rfl⟩ := Int.eq_ofNat_of_zero_le s0
  have hk : k < 8 := by omega
  have hk1 := hI k hk
  unfold I1k at hk1
  rw [Int.toNat_natCast, lr_sheet hk]
  simp only [ls_cls hk, ls_rf hk, ls_tag hk, ls_len hk, true_and]
  refine ⟨⟨by omega, by omega⟩, fun h0 => ?_, fun h0 => ?_⟩
  · have := hok k rfl hk h0
    refine sp_well l ?_
    rw [hh_upd_ne (by omega)]
    exact this
  · exact sp_found l (by omega) (hnul k rfl hk (by omega))
theorem sp_m_drop (l : Launch) {s : Int} {mem : hm} (hI : B1 mem) {Q : Int → hm → Prop} (hbad : ¬ (0 ≤ s ∧ s < 8) → ∀ x : hm, (∀ a, a ≠ 5723 → x a = mem a) → Q (-1000001) x) (hnul : ∀ k : Nat, s = k → k < 8 → mem (5755 + k) < 0 → ∀ x : hm, x 5724 = 1 → (∀ a, a ≠ 5723 ∧ a ≠ 5724 → x a = mem a) → Q (-1000011) x)
    (hok : ∀ k : Nat, s = k → k < 8 → 0 ≤ mem (5755 + k) → ∀ x : hm, x 5724 = 0 → x (5755 + k) = -1 → (∀ a, a ≠ 5755 + k ∧ a ≠ 5723 ∧ a ≠ 5724 → x a = mem a) → Q (mem (5763 + k)) x) : hm_I l m_X10_drop 3 [Vr 5723, Vi s] mem Q := by
  refine hr_X10_drop l (Nat.le_of_ble_eq_true rfl) ?_
  simp only [hb_X10_drop_35, hb_X10_drop_29, hb_X10_drop_15, hb_X10_drop_12, hb_X10_drop_0, hc_iconst, hc_lconst, hc_iload, hc_lload, hc_aload, hc_istore, hc_astore, hc_lstore, hc_iinc, hc_dup, hc_dup2, hc_pop, hc_iadd, hc_isub, hc_imul, hc_iaddw, hc_isubw, hc_imulw, hc_inegw, hc_idiv, hc_irem, hc_ineg, hc_b2, hc_b1, hc_i2l, hc_l2i, hc_ladd, hc_l2, hc_lsh, hc_lcmp, hc_if, hc_icmp, hc_jump, hc_getI, hc_getR, hc_putI, hc_putZ, hc_xald, hc_iast, hc_bast, hc_zast, hc_aald, hc_alen, hc_copy, hc_gets, hc_getsI, hc_sald, hc_ldcs, hc_sval, hc_scod, hc_slen, hc_sbald, hc_callI, hc_callL, hc_callV, hc_max, hc_min, hc_abs, hc_ireturn, hc_zreturn, hc_creturn, hc_lreturn, hc_return, hc_none, hc_switch, hv_sw, hv_get, hv_set, hv_set2, hv_mask, hv_fr, hv_noL, hv_pop, hv_pk, hv_isO, hv_isS, hv_any, hv_w, hv_cat, he_nil, he_i, he_r, he_l, hv_repl_0, hv_repl_s, if_true, if_false, and_true, true_and, and_self, Nat.zero_add, Nat.add_zero, Nat.reduceAdd, Nat.reduceLeDiff, List.length_cons, List.length_nil, Int.toNat_natCast, Bool.false_eq_true, reduceIte, Int.toNat_zero, Int.toNat_one, Int.reduceToNat, or_true, true_or, Int.reduceEq, Int.reduceLT, Int.reduceLE, Int.reduceNeg, Int.reduceAdd, Int.reduceSub, Int.reduceMul, Nat.reduceMul, Nat.reduceEqDiff, implies_true, false_implies, true_implies, not_true_eq_false, not_false_eq_true, ne_eq, or_false, false_or, and_false, false_and, or_self, Classical.not_not, Int.zero_add, Int.add_zero, lc_0, lc_22, lc_730, lc_902, lc_1074, lc_1447, lc_1824, lc_2081, lc_2135, lc_4258, lc_5723, lr_0, lt_14, ll_14, lr_2, lr_4, lr_5, lr_6, lr_7, lr_8, lt_1820, ll_1820, lr_9, lt_1822, ll_1822, lr_10, lr_11, lr_12, lr_13, lr_22, lt_30, ll_30, lr_1824, lt_1825, ll_1825, lr_2081, lt_2086, ll_2086, lr_2082, lt_2102, ll_2102, lr_2083, lt_2118, ll_2118, lr_2135, lt_2137, ll_2137, lr_4263, lt_4265, ll_4265, lr_5725, lt_5755, ll_5755, lr_5726, lt_5763, ll_5763, lr_5727, lt_5771, ll_5771, lr_5728, lt_6091, ll_6091, lr_5729, lt_6227, ll_6227, lr_5731, lt_6363, ll_6363, lr_5732, lt_6733, ll_6733, lr_5743, lt_7433, ll_7433, lr_5744, lt_7435, ll_7435, lr_5745, lt_7805, ll_7805, lr_5746, lt_7809, ll_7809, lr_5747, lt_8065, ll_8065, lr_5748, lt_8165, ll_8165, lr_5750, lt_8265, ll_8265, lr_5751, lt_8267, ll_8267, lr_5752, lt_8539, ll_8539, lr_5753, lt_9279, ll_9279, lr_731, lt_733, ll_733, lr_732, lt_899, ll_899, lr_903, lt_905, ll_905, lr_904, lt_1071, ll_1071, lr_1074, lt_1086, ll_1086, lr_1082, lt_1088, ll_1088, lr_1088, lt_1090, ll_1090, lr_1089, lt_1098, ll_1098, lr_1083, lt_1106, ll_1106, lr_1106, lt_1108, ll_1108, lr_1107, lt_1116, ll_1116, lr_1084, lt_1124, ll_1124, lr_1124, lt_1126, ll_1126, lr_1125, lt_1134, ll_1134, lr_1085, lt_1142, ll_1142, lr_1142, lt_1147, ll_1147, lr_1143, lt_1207, ll_1207, lr_1144, lt_1267, ll_1267, lr_1145, lt_1327, ll_1327, lr_1146, lt_1387, ll_1387, lr_1447, lt_1459, ll_1459, lr_1455, lt_1461, ll_1461, lr_1461, lt_1463, ll_1463, lr_1462, lt_1471, ll_1471, lr_1456, lt_1479, ll_1479, lr_1479, lt_1481, ll_1481, lr_1480, lt_1489, ll_1489, lr_1457, lt_1497, ll_1497, lr_1497, lt_1499, ll_1499, lr_1498, lt_1507, ll_1507, lr_1458, lt_1515, ll_1515, lr_1515, lt_1520, ll_1520, lr_1516, lt_1580, ll_1580, lr_1517, lt_1640, ll_1640, lr_1518, lt_1700, ll_1700, lr_1519, lt_1760, ll_1760]
  refine sp_isSheet_b l (fun s0 s1 => ?_) (fun h => hbad (by omega) _ (fun a ha => hh_upd_ne ha))
  obtain ⟨k, rfl⟩ := Int.eq_ofNat_of_zero_le s0
  have hk : k < 8 := by omega
  have hk1 := hI k hk
  rw [Int.toNat_natCast]
  generalize hx1 : hh_upd (hh_upd mem 5723 0) 5724 0 = x1
  have G : ∀ a, a ≠ 5723 ∧ a ≠ 5724 → x1 a = mem a := fun a ha => by rw [← hx1]; (first | (simp only [hh_upd, reduceIte]; done) | (simp only [hh_upd, reduceIte]; (repeat' split) <;> first | rfl | omega | assumption))
  have G0 : x1 5724 = 0 := by rw [← hx1]; (first | (simp only [hh_upd, reduceIte]; done) | (simp only [hh_upd, reduceIte]; (repeat' split) <;> first | rfl | omega | assumption))
  have e1 := G (5755 + k) (by omega)
  have e2 := G (5763 + k) (by omega)
  refine ⟨⟨by omega, by omega⟩, fun h0 => ?_, fun h0 => ?_⟩
  · refine ⟨⟨by omega, by omega⟩, ⟨by omega, by omega⟩, ?_⟩
    rw [hh_upd_ne (by omega), e2]
    exact hok k rfl hk (by omega) _ (by rw [hh_upd_ne (by omega)]; exact G0) (hh_upd_same _ _ _) (fun a ha => by rw [hh_upd_ne (by omega)]; exact G a (by omega))
  · exact sp_finding l (by omega) (hnul k rfl hk (by omega) _ (hh_upd_same _ _ _) (fun a ha => by rw [hh_upd_ne (by omega)]; exact G a ha))
theorem pr_drop (l : Launch) {n : Nat} {x : hm} (hI : IV n x) {s : Int} : hm_I l m_X9_drop 2 [Vr 0, Vi s] x (fun r x1 => hm_I l m_X10_drop 3 [Vr 5723, Vi s] x1 (fun r2 x2 => r = r2 ∧ IV (n + 1) x2)) := by
  obtain ⟨j1, j2, j3, j4, j5, j6, j7, j8, j9, j10⟩ := hI
  have k1 : ∀ k, k < 8 → I1k k x := j1
  unfold I1k at k1
  refine sp_c_drop l j1 (fun hb => ?_) (fun k hs hk g1 => ?_) (fun k hs hk g1 => ?_)
  · refine sp_m_drop l j1.B (fun _ x2 F => ?_) (fun k hs hk _ => by omega) (fun k hs hk _ => by omega)
    exact ⟨rfl, (I1_congr (fun a ha => F a (by omega)) j1), (I2_congr (fun a ha => F a (by omega)) j2), (I3_congr (fun a ha => F a (by omega)) j3), (I4_congr (fun a ha => F a (by omega)) j4), (I5_congr (fun a ha => F a (by omega)) j5), (I6_congr (by omega) (fun a ha => F a (by omega)) j6), (I7_congr (by omega) (fun a ha => F a (by omega)) j7), (I8_congr (fun a ha => F a (by omega)) j8), (I9_congr (fun a ha => F a (by omega)) j9), (I10_congr (fun a ha => F a (by omega)) j10)⟩
  · have h1 := k1 k hk
    refine sp_m_drop l (B1_congr (fun a ha => hh_upd_ne (by omega)) j1.B) (fun h => by omega) (fun k2 hs2 hk2 q1 x2 f1 f2 => ?_) (fun k2 hs2 hk2 q1 => ?_)
    · have F : ∀ a, a ≠ 1 ∧ a ≠ 5723 ∧ a ≠ 5724 → x2 a = x a := fun a ha => by rw [f2 a (by omega), hh_upd_ne (by omega)]
      refine ⟨rfl, (I1_congr (fun a ha => F a (by omega)) j1), ?_, (I3_congr (fun a ha => F a (by omega)) j3), (I4_congr (fun a ha => F a (by omega)) j4), (I5_congr (fun a ha => F a (by omega)) j5), (I6_congr (by omega) (fun a ha => F a (by omega)) j6), (I7_congr (by omega) (fun a ha => F a (by omega)) j7), (I8_congr (fun a ha => F a (by omega)) j8), (I9_congr (fun a ha => F a (by omega)) j9), (I10_congr (fun a ha => F a (by omega)) j10)⟩
      unfold I2
      rw [f1, f2 1 (by omega), hh_upd_same]
    · rw [hh_upd_ne (by omega)] at q1
      have : k2 = k := by omega
      subst this
      omega
  · have h1 := k1 k hk
    have E : ∀ a, a ≠ 4281 + 44 * k ∧ a ≠ 1 → hh_upd (hh_upd x (4281 + 44 * k) 1) 1 0 a = x a := fun a ha => by rw [hh_upd_ne (by omega), hh_upd_ne (by omega)]
    have E1 : hh_upd (hh_upd x (4281 + 44 * k) 1) 1 0 (4281 + 44 * k) = 1 := by rw [hh_upd_ne (by omega), hh_upd_same]
    have E2 : hh_upd (hh_upd x (4281 + 44 * k) 1) 1 0 1 = 0 := hh_upd_same _ _ _
    generalize hh_upd (hh_upd x (4281 + 44 * k) 1) 1 0 = y at E E1 E2
    refine sp_m_drop l (B1_congr (fun a ha => E a (by omega)) j1.B) (fun h => by omega) (fun k2 hs2 hk2 q1 => ?_) (fun k2 hs2 hk2 q1 x2 f1 f2 f3 => ?_)
    · rw [E _ (by omega)] at q1
      have : k2 = k := by omega
      subst this
      omega
    · have hkk : k2 = k := by omega
      subst hkk
      have F : ∀ a, a ≠ 4281 + 44 * k2 ∧ a ≠ 5755 + k2 ∧ a ≠ 1 ∧ a ≠ 5723 ∧ a ≠ 5724 → x2 a = x a := fun a ha => by rw [f3 a (by omega), E a (by omega)]
      refine ⟨?_, ?_, ?_, (I3_congr (fun a ha => F a (by omega)) j3), (I4_congr (fun a ha => F a (by omega)) j4), (I5_congr (fun a ha => F a (by omega)) j5), (I6_congr (by omega) (fun a ha => F a (by omega)) j6), (I7_congr (by omega) (fun a ha => F a (by omega)) j7), (I8_congr (fun a ha => F a (by omega)) j8), (I9_congr (fun a ha => F a (by omega)) j9), (I10_congr (fun a ha => F a (by omega)) j10)⟩
      · rw [E _ (by omega)]; omega
      · intro q hq
        have h1 := k1 q hq
        unfold I1k
        by_cases hqk : q = k2
        · subst hqk
          rw [f2, f3 (4281 + 44 * q) (by omega), E1, F (4281 + 44 * q + 1) (by omega), F (4281 + 44 * q + 2) (by omega), F (5763 + q) (by omega)]
          exact ⟨Or.inl ⟨rfl, rfl⟩, h1.2.1, fun i hi => by rw [F _ (by omega), F _ (by omega)]; exact h1.2.2 i hi⟩
        · rw [F (5755 + q) (by omega), F (4281 + 44 * q) (by omega), F (4281 + 44 * q + 1) (by omega), F (4281 + 44 * q + 2) (by omega), F (5763 + q) (by omega)]
          exact ⟨h1.1, h1.2.1, fun i hi => by rw [F _ (by omega), F _ (by omega)]; exact h1.2.2 i hi⟩
      · unfold I2
        rw [f1, f3 1 (by omega), E2]
