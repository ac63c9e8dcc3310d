/-! left -/
def bl (x : hm) (T : Int) : Nat → Nat → Int → Int
  | 0, _, v => v
  | n + 1, a, v => if T ≤ x a then (if v < 2 then -1 else bl x T n (a + 1) (v - 2)) else bl x T n (a + 1) (if v < 9 then v + 1 else 9)
theorem bl_s (x : hm) (T : Int) (n a : Nat) (v : Int) : bl x T (n + 1) a v = if T ≤ x a then (if v < 2 then -1 else bl x T n (a + 1) (v - 2)) else bl x T n (a + 1) (if v < 9 then v + 1 else 9) := rfl
theorem bl_b (x : hm) (T : Int) : ∀ (n a : Nat) (v : Int), 0 ≤ v → v ≤ 9 → -1 ≤ bl x T n a v ∧ bl x T n a v ≤ 9
  | 0, _, v, h1, h2 => by unfold bl; omega
  | n + 1, a, v, h1, h2 => by
    unfold bl
    by_cases c : T ≤ x a
    · rw [if_pos c]
      by_cases c2 : v < 2
      · rw [if_pos c2]; omega
      · rw [if_neg c2]; exact bl_b x T n (a + 1) (v - 2) (by omega) (by omega)
    · rw [if_neg c]
      refine bl_b x T n (a + 1) _ ?_ ?_ <;> split <;> omega
theorem bl_congr {x y : hm} (h : ∀ a, 5724 < a → y a = x a) (T : Int) : ∀ (n a : Nat) (v : Int), 5724 < a → bl y T n a v = bl x T n a v
  | 0, _, v, _ => rfl
  | n + 1, a, v, ha => by
    unfold bl
    rw [h a (by omega), bl_congr h T n (a + 1) _ (by omega), bl_congr h T n (a + 1) _ (by omega)]
theorem sp_breathLeft (l : Launch) {k : Nat} (hk : k < 8) {i n : Nat} (hin : i + n ≤ 40) {T v0 : Int} (hv : 0 ≤ v0 ∧ v0 ≤ 9) {x : hm} (hI : ∀ j, j < 40 → x (4285 + 44 * k + j) = x (5771 + 40 * k + j)) {Q : Int → hm → Prop} (h : ∀ r, (r < 0 ∧ bl x T n (5771 + 40 * k + i) v0 = -1) ∨ (0 ≤ r ∧ r ≤ 9 ∧ bl x T n (5771 + 40 * k + i) v0 = r) → Q r x) : hm_I l m_X9_breathLeft 1 [Vr (4281 + 44 * k), Vi i, Vi n, Vi T, Vi v0] x Q := by
  refine hr_X9_breathLeft l (Nat.le_of_ble_eq_true rfl) ?_
  intro At h7
  simp only [hb_X9_breathLeft_55, hb_X9_breathLeft_47, hb_X9_breathLeft_38, hb_X9_breathLeft_31, hb_X9_breathLeft_20, hb_X9_breathLeft_15, hb_X9_breathLeft_7, hb_X9_breathLeft_0, hc_iconst, hc_lconst, hc_iload, hc_lload, hc_aload, hc_istore, hc_astore, hc_lstore, hc_iinc, hc_dup, hc_dup2, hc_pop, hc_iadd, hc_isub, hc_imul, hc_iaddw, hc_isubw, hc_imulw, hc_inegw, hc_idiv, hc_irem, hc_ineg, hc_b2, hc_b1, hc_i2l, hc_l2i, hc_ladd, hc_l2, hc_lsh, hc_lcmp, hc_if, hc_icmp, hc_jump, hc_getI, hc_getR, hc_putI, hc_putZ, hc_xald, hc_iast, hc_bast, hc_zast, hc_aald, hc_alen, hc_copy, hc_gets, hc_getsI, hc_sald, hc_ldcs, hc_sval, hc_scod, hc_slen, hc_sbald, hc_callI, hc_callL, hc_callV, hc_max, hc_min, hc_abs, hc_ireturn, hc_zreturn, hc_creturn, hc_lreturn, hc_return, hc_none, hc_switch, hv_sw, hv_get, hv_set, hv_set2, hv_mask, hv_fr, hv_noL, hv_pop, hv_pk, hv_isO, hv_isS, hv_any, hv_w, hv_cat, he_nil, he_i, he_r, he_l, hv_repl_0, hv_repl_s, if_true, if_false, and_true, true_and, and_self, Nat.zero_add, Nat.add_zero, Nat.reduceAdd, Nat.reduceLeDiff, List.length_cons, List.length_nil, Int.toNat_natCast, Bool.false_eq_true, reduceIte, Int.toNat_zero, Int.toNat_one, Int.reduceToNat, or_true, true_or, Int.reduceEq, Int.reduceLT, Int.reduceLE, Int.reduceNeg, Int.reduceAdd, Int.reduceSub, Int.reduceMul, Nat.reduceMul, Nat.reduceEqDiff, implies_true, false_implies, true_implies, not_true_eq_false, not_false_eq_true, ne_eq, or_false, false_or, and_false, false_and, or_self, Classical.not_not, Int.zero_add, Int.add_zero, lc_0, lc_22, lc_730, lc_902, lc_1074, lc_1447, lc_1824, lc_2081, lc_2135, lc_4258, lc_5723, lr_0, lt_14, ll_14, lr_2, lr_4, lr_5, lr_6, lr_7, lr_8, lt_1820, ll_1820, lr_9, lt_1822, ll_1822, lr_10, lr_11, lr_12, lr_13, lr_22, lt_30, ll_30, lr_1824, lt_1825, ll_1825, lr_2081, lt_2086, ll_2086, lr_2082, lt_2102, ll_2102, lr_2083, lt_2118, ll_2118, lr_2135, lt_2137, ll_2137, lr_4263, lt_4265, ll_4265, lr_5725, lt_5755, ll_5755, lr_5726, lt_5763, ll_5763, lr_5727, lt_5771, ll_5771, lr_5728, lt_6091, ll_6091, lr_5729, lt_6227, ll_6227, lr_5731, lt_6363, ll_6363, lr_5732, lt_6733, ll_6733, lr_5743, lt_7433, ll_7433, lr_5744, lt_7435, ll_7435, lr_5745, lt_7805, ll_7805, lr_5746, lt_7809, ll_7809, lr_5747, lt_8065, ll_8065, lr_5748, lt_8165, ll_8165, lr_5750, lt_8265, ll_8265, lr_5751, lt_8267, ll_8267, lr_5752, lt_8539, ll_8539, lr_5753, lt_9279, ll_9279, lr_731, lt_733, ll_733, lr_732, lt_899, ll_899, lr_903, lt_905, ll_905, lr_904, lt_1071, ll_1071, lr_1074, lt_1086, ll_1086, lr_1082, lt_1088, ll_1088, lr_1088, lt_1090, ll_1090, lr_1089, lt_1098, ll_1098, lr_1083, lt_1106, ll_1106, lr_1106, lt_1108, ll_1108, lr_1107, lt_1116, ll_1116, lr_1084, lt_1124, ll_1124, lr_1124, lt_1126, ll_1126, lr_1125, lt_1134, ll_1134, lr_1085, lt_1142, ll_1142, lr_1142, lt_1147, ll_1147, lr_1143, lt_1207, ll_1207, lr_1144, lt_1267, ll_1267, lr_1145, lt_1327, ll_1327, lr_1146, lt_1387, ll_1387, lr_1447, lt_1459, ll_1459, lr_1455, lt_1461, ll_1461, lr_1461, lt_1463, ll_1463, lr_1462, lt_1471, ll_1471, lr_1456, lt_1479, ll_1479, lr_1479, lt_1481, ll_1481, lr_1480, lt_1489, ll_1489, lr_1457, lt_1497, ll_1497, lr_1497, lt_1499, ll_1499, lr_1498, lt_1507, ll_1507, lr_1458, lt_1515, ll_1515, lr_1515, lt_1520, ll_1520, lr_1516, lt_1580, ll_1580, lr_1517, lt_1640, ll_1640, lr_1518, lt_1700, ll_1700, lr_1519, lt_1760, ll_1760]
  have main : ∀ q : Nat × Int, (q.1 ≤ n ∧ -2 ≤ q.2 ∧ q.2 ≤ 9 ∧ ((q.2 < 0 ∧ bl x T n (5771 + 40 * k + i) v0 = -1) ∨ (0 ≤ q.2 ∧ bl x T n (5771 + 40 * k + i) v0 = bl x T (n - q.1) (5771 + 40 * k + (i + q.1)) q.2))) → At 7 [some (Vr (4281 + 44 * k)), some (Vi i), some (Vi n), some (Vi T), none, some (Vi q.2), some (Vi (i + q.1 : Nat))] [] x := by
    refine lp_m (fun q : Nat × Int => n - q.1) ?_
    rintro ⟨j, v⟩ ⟨a1, a2, a3, a4⟩ ih
    dsimp only at a1 a2 a3 a4
    refine h7 _ _ _ ?_
    simp only [hb_X9_breathLeft_55, hb_X9_breathLeft_47, hb_X9_breathLeft_38, hb_X9_breathLeft_31, hb_X9_breathLeft_20, hb_X9_breathLeft_15, hb_X9_breathLeft_7, hb_X9_breathLeft_0, hc_iconst, hc_lconst, hc_iload, hc_lload, hc_aload, hc_istore, hc_astore, hc_lstore, hc_iinc, hc_dup, hc_dup2, hc_pop, hc_iadd, hc_isub, hc_imul, hc_iaddw, hc_isubw, hc_imulw, hc_inegw, hc_idiv, hc_irem, hc_ineg, hc_b2, hc_b1, hc_i2l, hc_l2i, hc_ladd, hc_l2, hc_lsh, hc_lcmp, hc_if, hc_icmp, hc_jump, hc_getI, hc_getR, hc_putI, hc_putZ, hc_xald, hc_iast, hc_bast, hc_zast, hc_aald, hc_alen, hc_copy, hc_gets, hc_getsI, hc_sald, hc_ldcs, hc_sval, hc_scod, hc_slen, hc_sbald, hc_callI, hc_callL, hc_callV, hc_max, hc_min, hc_abs, hc_ireturn, hc_zreturn, hc_creturn, hc_lreturn, hc_return, hc_none, hc_switch, hv_sw, hv_get, hv_set, hv_set2, hv_mask, hv_fr, hv_noL, hv_pop, hv_pk, hv_isO, hv_isS, hv_any, hv_w, hv_cat, he_nil, he_i, he_r, he_l, hv_repl_0, hv_repl_s, if_true, if_false, and_true, true_and, and_self, Nat.zero_add, Nat.add_zero, Nat.reduceAdd, Nat.reduceLeDiff, List.length_cons, List.length_nil, Int.toNat_natCast, Bool.false_eq_true, reduceIte, Int.toNat_zero, Int.toNat_one, Int.reduceToNat, or_true, true_or, Int.reduceEq, Int.reduceLT, Int.reduceLE, Int.reduceNeg, Int.reduceAdd, Int.reduceSub, Int.reduceMul, Nat.reduceMul, Nat.reduceEqDiff, implies_true, false_implies, true_implies, not_true_eq_false, not_false_eq_true, ne_eq, or_false, false_or, and_false, false_and, or_self, Classical.not_not, Int.zero_add, Int.add_zero, lc_0, lc_22, lc_730, lc_902, lc_1074, lc_1447, lc_1824, lc_2081, lc_2135, lc_4258, lc_5723, lr_0, lt_14, ll_14, lr_2, lr_4, lr_5, lr_6, lr_7, lr_8, lt_1820, ll_1820, lr_9, lt_1822, ll_1822, lr_10, lr_11, lr_12, lr_13, lr_22, lt_30, ll_30, lr_1824, lt_1825, ll_1825, lr_2081, lt_2086, ll_2086, lr_2082, lt_2102, ll_2102, lr_2083, lt_2118, ll_2118, lr_2135, lt_2137, ll_2137, lr_4263, lt_4265, ll_4265, lr_5725, lt_5755, ll_5755, lr_5726, lt_5763, ll_5763, lr_5727, lt_5771, ll_5771, lr_5728, lt_6091, ll_6091, lr_5729, lt_6227, ll_6227, lr_5731, lt_6363, ll_6363, lr_5732, lt_6733, ll_6733, lr_5743, lt_7433, ll_7433, lr_5744, lt_7435, ll_7435, lr_5745, lt_7805, ll_7805, lr_5746, lt_7809, ll_7809, lr_5747, lt_8065, ll_8065, lr_5748, lt_8165, ll_8165, lr_5750, lt_8265, ll_8265, lr_5751, lt_8267, ll_8267, lr_5752, lt_8539, ll_8539, lr_5753, lt_9279, ll_9279, lr_731, lt_733, ll_733, lr_732, lt_899, ll_899, lr_903, lt_905, ll_905, lr_904, lt_1071, ll_1071, lr_1074, lt_1086, ll_1086, lr_1082, lt_1088, ll_1088, lr_1088, lt_1090, ll_1090, lr_1089, lt_1098, ll_1098, lr_1083, lt_1106, ll_1106, lr_1106, lt_1108, ll_1108, lr_1107, lt_1116, ll_1116, lr_1084, lt_1124, ll_1124, lr_1124, lt_1126, ll_1126, lr_1125, lt_1134, ll_1134, lr_1085, lt_1142, ll_1142, lr_1142, lt_1147, ll_1147, lr_1143, lt_1207, ll_1207, lr_1144, lt_1267, ll_1267, lr_1145, lt_1327, ll_1327, lr_1146, lt_1387, ll_1387, lr_1447, lt_1459, ll_1459, lr_1455, lt_1461, ll_1461, lr_1461, lt_1463, ll_1463, lr_1462, lt_1471, ll_1471, lr_1456, lt_1479, ll_1479, lr_1479, lt_1481, ll_1481, lr_1480, lt_1489, ll_1489, lr_1457, lt_1497, ll_1497, lr_1497, lt_1499, ll_1499, lr_1498, lt_1507, ll_1507, lr_1458, lt_1515, ll_1515, lr_1515, lt_1520, ll_1520, lr_1516, lt_1580, ll_1580, lr_1517, lt_1640, ll_1640, lr_1518, lt_1700, ll_1700, lr_1519, lt_1760, ll_1760]
    refine ⟨⟨by omega, by omega⟩, fun g => ?_, fun g => ⟨fun g2 => ?_, fun g2 => ?_⟩⟩
    · have : j = n := by omega
      subst this
      rw [Nat.sub_self] at a4
      exact h v (by rcases a4 with c | ⟨c, d⟩; exact Or.inl c; exact Or.inr ⟨c, a3, d⟩)
    · rcases a4 with c | ⟨c, d⟩
      · exact h v (Or.inl c)
      · omega
    · have hj : j < n := by omega
      obtain ⟨c, d⟩ : 0 ≤ v ∧ bl x T n (5771 + 40 * k + i) v0 = bl x T (n - j) (5771 + 40 * k + (i + j)) v := by
        rcases a4 with c | c
        · omega
        · exact c
      rw [show n - j = (n - (j + 1)) + 1 by omega] at d
      rw [bl_s] at d
      have ei := hI (i + j) (by omega)
      have ea : 5771 + 40 * k + (i + j) + 1 = 5771 + 40 * k + (i + (j + 1)) := by omega
      rw [ea] at d
      simp only [ls_cls hk, ls_rf hk, ls_tag hk, ls_len hk, true_and]
      rw [ei]
      refine ⟨⟨by omega, by omega⟩, fun g3 => ?_, fun g3 => ?_⟩
      · rw [if_neg (by omega)] at d
        have ih' := ih (j + 1, if v < 9 then v + 1 else 9) ⟨by show j + 1 ≤ n; omega, by show -2 ≤ ite _ _ _; split <;> omega, by show ite _ _ _ ≤ 9; split <;> omega, Or.inr ⟨by show 0 ≤ ite _ _ _; split <;> omega, d⟩⟩ (by show n - (j + 1) < n - j; omega)
        have em : min 9 (v + 1) = if v < 9 then v + 1 else 9 := by split <;> omega
        rw [em]
        (repeat' (with_reducible refine And.intro ?_ ?_)) <;> first | exact ih' | exact trivial | omega | exact ⟨by omega, by omega⟩
      · rw [if_pos (by omega)] at d
        have ih' := ih (j + 1, v - 2) ⟨by show j + 1 ≤ n; omega, by show -2 ≤ v - 2; omega, by show v - 2 ≤ 9; omega, by
          by_cases c2 : v < 2
          · rw [if_pos c2] at d; exact Or.inl ⟨by show v - 2 < 0; omega, d⟩
          · rw [if_neg c2] at d; exact Or.inr ⟨by show 0 ≤ v - 2; omega, d⟩⟩ (by show n - (j + 1) < n - j; omega)
        (repeat' (with_reducible refine And.intro ?_ ?_)) <;> first | exact ih' | exact trivial | omega | exact ⟨by omega, by omega⟩
  exact main (0, v0) ⟨Nat.zero_le _, by show -2 ≤ v0; omega, hv.2, Or.inr ⟨hv.1, rfl⟩⟩
/-- one beginning breath more -/
def stp (b : Int) (m : Nat) (S : Int × Int × Int) : Int × Int × Int := if b < 0 then S else (hv_or S.1 (hv_shl 1 m), if S.2.1 = -1000000 ∨ b < S.2.1 then b else S.2.1, if S.2.2 < b then b else S.2.2)
def stL (x : hm) (T : Int) (n a : Nat) : Nat → Int × Int × Int
  | 0 => (0, -1000000, -1000000)
  | m + 1 => stp (bl x T n a m) m (stL x T n a m)
theorem stL_s (x : hm) (T : Int) (n a m : Nat) : stL x T n a (m + 1) = stp (bl x T n a m) m (stL x T n a m) := rfl
def F_left (x : hm) (T : Int) (n a : Nat) (w : Int) : Int := if w = 0 then (stL x T n a 10).1 else if w = 1 then (stL x T n a 10).2.1 else (stL x T n a 10).2.2
theorem sp_leftBehind (l : Launch) {k : Nat} (hk : k < 8) {i n : Nat} (hin : i + n ≤ 40) {T w : Int} {x : hm} (hI : ∀ j, j < 40 → x (4285 + 44 * k + j) = x (5771 + 40 * k + j)) {Q : Int → hm → Prop} (h : Q (F_left x T n (5771 + 40 * k + i) w) x) : hm_I l m_X9_leftBehind 2 [Vr (4281 + 44 * k), Vi i, Vi n, Vi T, Vi w] x Q := by
  refine hr_X9_leftBehind l (Nat.le_of_ble_eq_true rfl) ?_
  intro At h14
  simp only [hb_X9_leftBehind_105, hb_X9_leftBehind_103, hb_X9_leftBehind_98, hb_X9_leftBehind_92, hb_X9_leftBehind_87, hb_X9_leftBehind_82, hb_X9_leftBehind_76, hb_X9_leftBehind_65, hb_X9_leftBehind_58, hb_X9_leftBehind_53, hb_X9_leftBehind_37, hb_X9_leftBehind_21, hb_X9_leftBehind_14, hb_X9_leftBehind_0, hc_iconst, hc_lconst, hc_iload, hc_lload, hc_aload, hc_istore, hc_astore, hc_lstore, hc_iinc, hc_dup, hc_dup2, hc_pop, hc_iadd, hc_isub, hc_imul, hc_iaddw, hc_isubw, hc_imulw, hc_inegw, hc_idiv, hc_irem, hc_ineg, hc_b2, hc_b1, hc_i2l, hc_l2i, hc_ladd, hc_l2, hc_lsh, hc_lcmp, hc_if, hc_icmp, hc_jump, hc_getI, hc_getR, hc_putI, hc_putZ, hc_xald, hc_iast, hc_bast, hc_zast, hc_aald, hc_alen, hc_copy, hc_gets, hc_getsI, hc_sald, hc_ldcs, hc_sval, hc_scod, hc_slen, hc_sbald, hc_callI, hc_callL, hc_callV, hc_max, hc_min, hc_abs, hc_ireturn, hc_zreturn, hc_creturn, hc_lreturn, hc_return, hc_none, hc_switch, hv_sw, hv_get, hv_set, hv_set2, hv_mask, hv_fr, hv_noL, hv_pop, hv_pk, hv_isO, hv_isS, hv_any, hv_w, hv_cat, he_nil, he_i, he_r, he_l, hv_repl_0, hv_repl_s, if_true, if_false, and_true, true_and, and_self, Nat.zero_add, Nat.add_zero, Nat.reduceAdd, Nat.reduceLeDiff, List.length_cons, List.length_nil, Int.toNat_natCast, Bool.false_eq_true, reduceIte, Int.toNat_zero, Int.toNat_one, Int.reduceToNat, or_true, true_or, Int.reduceEq, Int.reduceLT, Int.reduceLE, Int.reduceNeg, Int.reduceAdd, Int.reduceSub, Int.reduceMul, Nat.reduceMul, Nat.reduceEqDiff, implies_true, false_implies, true_implies, not_true_eq_false, not_false_eq_true, ne_eq, or_false, false_or, and_false, false_and, or_self, Classical.not_not, Int.zero_add, Int.add_zero, lc_0, lc_22, lc_730, lc_902, lc_1074, lc_1447, lc_1824, lc_2081, lc_2135, lc_4258, lc_5723, lr_0, lt_14, ll_14, lr_2, lr_4, lr_5, lr_6, lr_7, lr_8, lt_1820, ll_1820, lr_9, lt_1822, ll_1822, lr_10, lr_11, lr_12, lr_13, lr_22, lt_30, ll_30, lr_1824, lt_1825, ll_1825, lr_2081, lt_2086, ll_2086, lr_2082, lt_2102, ll_2102, lr_2083, lt_2118, ll_2118, lr_2135, lt_2137, ll_2137, lr_4263, lt_4265, ll_4265, lr_5725, lt_5755, ll_5755, lr_5726, lt_5763, ll_5763, lr_5727, lt_5771, ll_5771, lr_5728, lt_6091, ll_6091, lr_5729, lt_6227, ll_6227, lr_5731, lt_6363, ll_6363, lr_5732, lt_6733, ll_6733, lr_5743, lt_7433, ll_7433, lr_5744, lt_7435, ll_7435, lr_5745, lt_7805, ll_7805, lr_5746, lt_7809, ll_7809, lr_5747, lt_8065, ll_8065, lr_5748, lt_8165, ll_8165, lr_5750, lt_8265, ll_8265, lr_5751, lt_8267, ll_8267, lr_5752, lt_8539, ll_8539, lr_5753, lt_9279, ll_9279, lr_731, lt_733, ll_733, lr_732, lt_899, ll_899, lr_903, lt_905, ll_905, lr_904, lt_1071, ll_1071, lr_1074, lt_1086, ll_1086, lr_1082, lt_1088, ll_1088, lr_1088, lt_1090, ll_1090, lr_1089, lt_1098, ll_1098, lr_1083, lt_1106, ll_1106, lr_1106, lt_1108, ll_1108, lr_1107, lt_1116, ll_1116, lr_1084, lt_1124, ll_1124, lr_1124, lt_1126, ll_1126, lr_1125, lt_1134, ll_1134, lr_1085, lt_1142, ll_1142, lr_1142, lt_1147, ll_1147, lr_1143, lt_1207, ll_1207, lr_1144, lt_1267, ll_1267, lr_1145, lt_1327, ll_1327, lr_1146, lt_1387, ll_1387, lr_1447, lt_1459, ll_1459, lr_1455, lt_1461, ll_1461, lr_1461, lt_1463, ll_1463, lr_1462, lt_1471, ll_1471, lr_1456, lt_1479, ll_1479, lr_1479, lt_1481, ll_1481, lr_1480, lt_1489, ll_1489, lr_1457, lt_1497, ll_1497, lr_1497, lt_1499, ll_1499, lr_1498, lt_1507, ll_1507, lr_1458, lt_1515, ll_1515, lr_1515, lt_1520, ll_1520, lr_1516, lt_1580, ll_1580, lr_1517, lt_1640, ll_1640, lr_1518, lt_1700, ll_1700, lr_1519, lt_1760, ll_1760]
  refine lp_m (fun m : Nat => 10 - m) (G := fun m => At 14 [some (Vr (4281 + 44 * k)), some (Vi i), some (Vi n), some (Vi T), some (Vi w), some (Vi (stL x T n (5771 + 40 * k + i) m).1), some (Vi (stL x T n (5771 + 40 * k + i) m).2.1), some (Vi (stL x T n (5771 + 40 * k + i) m).2.2), some (Vi m), none] [] x) (P := fun m => m ≤ 10) ?_ 0 (Nat.zero_le _)
  intro m hm ih
  refine h14 _ _ _ ?_
  simp only [hb_X9_leftBehind_105, hb_X9_leftBehind_103, hb_X9_leftBehind_98, hb_X9_leftBehind_92, hb_X9_leftBehind_87, hb_X9_leftBehind_82, hb_X9_leftBehind_76, hb_X9_leftBehind_65, hb_X9_leftBehind_58, hb_X9_leftBehind_53, hb_X9_leftBehind_37, hb_X9_leftBehind_21, hb_X9_leftBehind_14, hb_X9_leftBehind_0, hc_iconst, hc_lconst, hc_iload, hc_lload, hc_aload, hc_istore, hc_astore, hc_lstore, hc_iinc, hc_dup, hc_dup2, hc_pop, hc_iadd, hc_isub, hc_imul, hc_iaddw, hc_isubw, hc_imulw, hc_inegw, hc_idiv, hc_irem, hc_ineg, hc_b2, hc_b1, hc_i2l, hc_l2i, hc_ladd, hc_l2, hc_lsh, hc_lcmp, hc_if, hc_icmp, hc_jump, hc_getI, hc_getR, hc_putI, hc_putZ, hc_xald, hc_iast, hc_bast, hc_zast, hc_aald, hc_alen, hc_copy, hc_gets, hc_getsI, hc_sald, hc_ldcs, hc_sval, hc_scod, hc_slen, hc_sbald, hc_callI, hc_callL, hc_callV, hc_max, hc_min, hc_abs, hc_ireturn, hc_zreturn, hc_creturn, hc_lreturn, hc_return, hc_none, hc_switch, hv_sw, hv_get, hv_set, hv_set2, hv_mask, hv_fr, hv_noL, hv_pop, hv_pk, hv_isO, hv_isS, hv_any, hv_w, hv_cat, he_nil, he_i, he_r, he_l, hv_repl_0, hv_repl_s, if_true, if_false, and_true, true_and, and_self, Nat.zero_add, Nat.add_zero, Nat.reduceAdd, Nat.reduceLeDiff, List.length_cons, List.length_nil, Int.toNat_natCast, Bool.false_eq_true, reduceIte, Int.toNat_zero, Int.toNat_one, Int.reduceToNat, or_true, true_or, Int.reduceEq, Int.reduceLT, Int.reduceLE, Int.reduceNeg, Int.reduceAdd, Int.reduceSub, Int.reduceMul, Nat.reduceMul, Nat.reduceEqDiff, implies_true, false_implies, true_implies, not_true_eq_false, not_false_eq_true, ne_eq, or_false, false_or, and_false, false_and, or_self, Classical.not_not, Int.zero_add, Int.add_zero, lc_0, lc_22, lc_730, lc_902, lc_1074, lc_1447, lc_1824, lc_2081, lc_2135, lc_4258, lc_5723, lr_0, lt_14, ll_14, lr_2, lr_4, lr_5, lr_6, lr_7, lr_8, lt_1820, ll_1820, lr_9, lt_1822, ll_1822, lr_10, lr_11, lr_12, lr_13, lr_22, lt_30, ll_30, lr_1824, lt_1825, ll_1825, lr_2081, lt_2086, ll_2086, lr_2082, lt_2102, ll_2102, lr_2083, lt_2118, ll_2118, lr_2135, lt_2137, ll_2137, lr_4263, lt_4265, ll_4265, lr_5725, lt_5755, ll_5755, lr_5726, lt_5763, ll_5763, lr_5727, lt_5771, ll_5771, lr_5728, lt_6091, ll_6091, lr_5729, lt_6227, ll_6227, lr_5731, lt_6363, ll_6363, lr_5732, lt_6733, ll_6733, lr_5743, lt_7433, ll_7433, lr_5744, lt_7435, ll_7435, lr_5745, lt_7805, ll_7805, lr_5746, lt_7809, ll_7809, lr_5747, lt_8065, ll_8065, lr_5748, lt_8165, ll_8165, lr_5750, lt_8265, ll_8265, lr_5751, lt_8267, ll_8267, lr_5752, lt_8539, ll_8539, lr_5753, lt_9279, ll_9279, lr_731, lt_733, ll_733, lr_732, lt_899, ll_899, lr_903, lt_905, ll_905, lr_904, lt_1071, ll_1071, lr_1074, lt_1086, ll_1086, lr_1082, lt_1088, ll_1088, lr_1088, lt_1090, ll_1090, lr_1089, lt_1098, ll_1098, lr_1083, lt_1106, ll_1106, lr_1106, lt_1108, ll_1108, lr_1107, lt_1116, ll_1116, lr_1084, lt_1124, ll_1124, lr_1124, lt_1126, ll_1126, lr_1125, lt_1134, ll_1134, lr_1085, lt_1142, ll_1142, lr_1142, lt_1147, ll_1147, lr_1143, lt_1207, ll_1207, lr_1144, lt_1267, ll_1267, lr_1145, lt_1327, ll_1327, lr_1146, lt_1387, ll_1387, lr_1447, lt_1459, ll_1459, lr_1455, lt_1461, ll_1461, lr_1461, lt_1463, ll_1463, lr_1462, lt_1471, ll_1471, lr_1456, lt_1479, ll_1479, lr_1479, lt_1481, ll_1481, lr_1480, lt_1489, ll_1489, lr_1457, lt_1497, ll_1497, lr_1497, lt_1499, ll_1499, lr_1498, lt_1507, ll_1507, lr_1458, lt_1515, ll_1515, lr_1515, lt_1520, ll_1520, lr_1516, lt_1580, ll_1580, lr_1517, lt_1640, ll_1640, lr_1518, lt_1700, ll_1700, lr_1519, lt_1760, ll_1760]
  refine ⟨fun g => ?_, fun g => ?_⟩
  · have : m = 10 := by omega
    subst this
    unfold F_left at h
    refine ⟨fun w0 => ⟨fun w1 => ?_, fun w1 => ?_⟩, fun w0 => ?_⟩
    · rw [if_neg w0, if_neg w1] at h; exact h
    · rw [if_neg w0, if_pos w1] at h; exact h
    · rw [if_pos w0] at h; exact h
  · have ih' := ih (m + 1) (by omega) (by show 10 - (m + 1) < 10 - m; omega)
    rw [stL_s] at ih'
    generalize stL x T n (5771 + 40 * k + i) m = S at ih' ⊢
    obtain ⟨S1, S2, S3⟩ := S
    refine sp_breathLeft l hk hin (by omega) hI (fun r hr => ?_)
    unfold stp at ih'
    refine ⟨fun g2 => ⟨⟨by omega, by omega⟩, ?_⟩, fun g2 => ?_⟩
    · rw [if_pos (by omega)] at ih'
      exact ih'
    · have er : bl x T n (5771 + 40 * k + i) m = r := by omega
      rw [er, if_neg g2] at ih'
      dsimp only at ih' ⊢
      have em : max S3 r = if S3 < r then r else S3 := by split <;> omega
      rw [em]
      refine ⟨fun g3 => ?_, fun g3 => ?_⟩
      · have e2 : min S2 r = if S2 = -1000000 ∨ r < S2 then r else S2 := by split <;> omega
        rw [e2]
        (repeat' (with_reducible refine And.intro ?_ ?_)) <;> first | exact ih' | exact trivial | omega | exact ⟨by omega, by omega⟩
      · rw [if_pos (show S2 = -1000000 ∨ r < S2 from Or.inl g3)] at ih'
        (repeat' (with_reducible refine And.intro ?_ ?_)) <;> first | exact ih' | exact trivial | omega | exact ⟨by omega, by omega⟩
