/-! one match, one pull becomes another -/
def useM (k : Nat) : Prop := k = 5 ∨ k = 7 ∨ k = 87 ∨ k = 89 ∨ (17 ≤ k ∧ k < 57) ∨ (63 ≤ k ∧ k < 87) ∨ (99 ≤ k ∧ k < 139) ∨ (145 ≤ k ∧ k < 172)
theorem RM_move2 {m b m' b' : Nat} {x y : hm} (h1 : ∀ k, useM k → y (m' + k) = x (m + k)) (h2 : ∀ k, k < 136 → y (b' + k) = x (b + k)) (hx : RM m b x) : RM m' b' y := by
  unfold useM at h1
  have e1 : ∀ {q k : Nat}, q = m' + k → (k = 5 ∨ k = 7 ∨ k = 87 ∨ k = 89 ∨ (17 ≤ k ∧ k < 57) ∨ (63 ≤ k ∧ k < 87) ∨ (99 ≤ k ∧ k < 139) ∨ (145 ≤ k ∧ k < 172)) → y q = x (m + k) := fun hq hk => by rw [hq]; exact h1 _ hk
  have e2 : ∀ {q k : Nat}, q = b' + k → k < 136 → y q = x (b + k) := fun hq hk => by rw [hq]; exact h2 _ hk
  refine ⟨fun s hs => ?_, fun i hi => ?_⟩
  · obtain ⟨g1, g2, g3, g4⟩ := hx.1 s hs
    rw [e1 (q := m' + 5 + 82 * s) (k := 5 + 82 * s) (by omega) (by omega), e2 (q := b' + s) (k := s) (by omega) (by omega), e1 (q := m' + 7 + 82 * s) (k := 7 + 82 * s) (by omega) (by omega), e2 (q := b' + 2 + s) (k := 2 + s) (by omega) (by omega)]
    refine ⟨by rw [← g1]; congr 1; omega, by rw [← Nat.add_assoc b, ← g2]; congr 1; omega, fun p hp hl k hk => ?_, fun r hr hl k hk => ?_⟩
    · rw [e1 (q := m' + 17 + 82 * s + 5 * p + k) (k := 17 + 82 * s + 5 * p + k) (by omega) (by rcases (show s = 0 ∨ s = 1 by omega) with e | e <;> rw [e] <;> omega), e2 (q := b' + 8 + 40 * s + 5 * p + k) (k := 8 + 40 * s + 5 * p + k) (by omega) (by omega)]
      have := g3 p hp hl k hk
      rw [show m + (17 + 82 * s + 5 * p + k) = m + 17 + 82 * s + 5 * p + k by omega, show b + (8 + 40 * s + 5 * p + k) = b + 8 + 40 * s + 5 * p + k by omega]
      exact this
    · rw [e1 (q := m' + 63 + 82 * s + 4 * r + k) (k := 63 + 82 * s + 4 * r + k) (by omega) (by rcases (show s = 0 ∨ s = 1 by omega) with e | e <;> rw [e] <;> omega), e2 (q := b' + 88 + 24 * s + 4 * r + k) (k := 88 + 24 * s + 4 * r + k) (by omega) (by omega)]
      rw [← Nat.add_assoc b] at hl
      have := g4 r hr hl k hk
      rw [show m + (63 + 82 * s + 4 * r + k) = m + 63 + 82 * s + 4 * r + k by omega, show b + (88 + 24 * s + 4 * r + k) = b + 88 + 24 * s + 4 * r + k by omega]
      exact this
  · rw [e1 (q := m' + 169 + i) (k := 169 + i) (by omega) (by omega), e2 (q := b' + 5 + i) (k := 5 + i) (by omega) (by omega), ← Nat.add_assoc, ← Nat.add_assoc]
    exact hx.2 i hi
def useT (k : Nat) : Prop := (1 ≤ k ∧ k < 8) ∨ k = 12 ∨ k = 13 ∨ (16 ≤ k ∧ k < 32) ∨ (34 ≤ k ∧ k < 50) ∨ (52 ≤ k ∧ k < 68) ∨ (73 ≤ k ∧ k < 373)
theorem RT_move2 {t b w t' b' w' : Nat} {x y : hm} (h1 : ∀ k, useT k → y (t' + k) = x (t + k)) (h2 : ∀ k, k < 136 → y (b' + k) = x (b + k)) (h3 : ∀ k, k < 370 → y (w' + k) = x (w + k)) (hx : RT t b w x) : RT t' b' w' y := by
  unfold useT at h1
  have e1 : ∀ {q p : Nat}, ((1 ≤ (q - t') ∧ (q - t') < 8) ∨ (q - t') = 12 ∨ (q - t') = 13 ∨ (16 ≤ (q - t') ∧ (q - t') < 32) ∨ (34 ≤ (q - t') ∧ (q - t') < 50) ∨ (52 ≤ (q - t') ∧ (q - t') < 68) ∨ (73 ≤ (q - t') ∧ (q - t') < 373)) → t' ≤ q → p = t + (q - t') → y q = x p := fun {q p} hk hq hp => by
    have := h1 _ hk
    rw [show t' + (q - t') = q by omega] at this
    rw [this, hp]
  have e3 : ∀ {q p : Nat}, (q - w') < 370 → w' ≤ q → p = w + (q - w') → y q = x p := fun {q p} hk hq hp => by
    have := h3 _ hk
    rw [show w' + (q - w') = q by omega] at this
    rw [this, hp]
  obtain ⟨g1, ⟨g2, g2'⟩, g3⟩ := hx
  have hw0 : y w' = x w := by have := h3 0 (by omega); simpa using this
  unfold RT
  rw [h1 1 (by omega), h3 2 (by omega), h1 12 (by omega), h1 13 (by omega), hw0, h3 1 (by omega), h1 2 (by omega), h1 3 (by omega), h1 4 (by omega), h1 5 (by omega), h1 6 (by omega), h1 7 (by omega), h3 3 (by omega), h3 4 (by omega), h3 5 (by omega), h3 6 (by omega), h3 7 (by omega), h3 8 (by omega)]
  refine ⟨g1, ⟨g2, g2'⟩, fun hb => ?_⟩
  obtain ⟨q1, q2, q3⟩ := g3 hb
  refine ⟨q1, fun s hs p hp hl => ?_, fun ago ha hl q hq => ?_⟩
  · rw [h2 s (by omega)] at hl
    have := q2 s hs p hp hl
    rw [e1 (q := t' + 16 + 8 * s + p) (p := t + 16 + 8 * s + p) (by omega) (by omega) (by omega), e3 (q := w' + 10 + 8 * s + p) (p := w + 10 + 8 * s + p) (by omega) (by omega) (by omega), e1 (q := t' + 34 + 8 * s + p) (p := t + 34 + 8 * s + p) (by omega) (by omega) (by omega), e3 (q := w' + 26 + 8 * s + p) (p := w + 26 + 8 * s + p) (by omega) (by omega) (by omega), e1 (q := t' + 52 + 8 * s + p) (p := t + 52 + 8 * s + p) (by omega) (by omega) (by omega), e3 (q := w' + 42 + 8 * s + p) (p := w + 42 + 8 * s + p) (by omega) (by omega) (by omega)]
    exact this
  · have := q3 ago ha hl q hq
    have hm : ((x (w + 5)).toNat - 1 - ago) % 60 < 60 := Nat.mod_lt _ (by decide)
    rw [e1 (q := t' + 73 + 60 * q + ((x (w + 5)).toNat - 1 - ago) % 60) (p := t + 73 + 60 * q + ((x (w + 5)).toNat - 1 - ago) % 60) (by omega) (by omega) (by omega), e3 (q := w' + 70 + 5 * ago + q) (p := w + 70 + 5 * ago + q) (by omega) (by omega) (by omega)]
    exact this
/-- a stretch of the memory after a copy -/
theorem cpy_in {x : hm} {b i a j n q : Nat} (h1 : a + j ≤ q) (h2 : q < a + j + n) : hh_cpy x b i a j n q = x (b + i + (q - (a + j))) := by
  unfold hh_cpy
  rw [if_pos (by omega)]
theorem cpy_out {x : hm} {b i a j n q : Nat} (h : ¬ (a + j ≤ q ∧ q < a + j + n)) : hh_cpy x b i a j n q = x q := by
  unfold hh_cpy
  rw [if_neg (by omega)]
theorem sp_sideBecome (l : Launch) {d s : Nat} (hd : IsSide d) (hs : IsSide s) (hne : d + 82 ≤ s ∨ s + 82 ≤ d) {x : hm} {Q : hm → Prop} (h : ∀ y : hm, y d = x s → y (d + 2) = x (s + 2) → (∀ k, k < 40 → y (d + 12 + k) = x (s + 12 + k)) → (∀ k, k < 24 → y (d + 58 + k) = x (s + 58 + k)) → (∀ a, ¬ (d ≤ a ∧ a < d + 82) → y a = x a) → Q y) : hm_V l m_X7_become 1 [Vr d, Vr s] x Q := by
  refine hr_X7_become l (Nat.le_of_ble_eq_true rfl) ?_
  intro At h18 h50
  simp only [hb_X7_become_80, hb_X7_become_56, hb_X7_become_50, hb_X7_become_48, hb_X7_become_24, hb_X7_become_18, hb_X7_become_0, hc_iconst, hc_lconst, hc_iload, hc_lload, hc_aload, hc_istore, hc_astore, hc_lstore, hc_iinc, hc_dup, hc_dup2, hc_pop, hc_iadd, hc_isub, hc_imul, hc_iaddw, hc_isubw, hc_imulw, hc_inegw, hc_idiv, hc_irem, hc_ineg, hc_b2, hc_b1, hc_i2l, hc_l2i, hc_ladd, hc_l2, hc_lsh, hc_lcmp, hc_if, hc_icmp, hc_jump, hc_getI, hc_getR, hc_putI, hc_putZ, hc_xald, hc_iast, hc_bast, hc_zast, hc_aald, hc_alen, hc_copy, hc_gets, hc_getsI, hc_sald, hc_ldcs, hc_sval, hc_scod, hc_slen, hc_sbald, hc_callI, hc_callL, hc_callV, hc_max, hc_min, hc_abs, hc_ireturn, hc_zreturn, hc_creturn, hc_lreturn, hc_return, hc_none, hc_switch, hv_sw, hv_get, hv_set, hv_set2, hv_mask, hv_fr, hv_noL, hv_pop, hv_pk, hv_isO, hv_isS, hv_any, hv_w, hv_cat, he_nil, he_i, he_r, he_l, hv_repl_0, hv_repl_s, if_true, if_false, and_true, true_and, and_self, Nat.zero_add, Nat.add_zero, Nat.reduceAdd, Nat.reduceLeDiff, List.length_cons, List.length_nil, Int.toNat_natCast, Bool.false_eq_true, reduceIte, Int.toNat_zero, Int.toNat_one, Int.reduceToNat, or_true, true_or, Int.reduceEq, Int.reduceLT, Int.reduceLE, Int.reduceNeg, Int.reduceAdd, Int.reduceSub, Int.reduceMul, Nat.reduceMul, Nat.reduceEqDiff, implies_true, false_implies, true_implies, not_true_eq_false, not_false_eq_true, ne_eq, or_false, false_or, and_false, false_and, or_self, Classical.not_not, Int.zero_add, Int.add_zero, lc_0, lc_22, lc_730, lc_902, lc_1074, lc_1447, lc_1824, lc_2081, lc_2135, lc_4258, lc_5723, lr_0, lt_14, ll_14, lr_2, lr_4, lr_5, lr_6, lr_7, lr_8, lt_1820, ll_1820, lr_9, lt_1822, ll_1822, lr_10, lr_11, lr_12, lr_13, lr_22, lt_30, ll_30, lr_1824, lt_1825, ll_1825, lr_2081, lt_2086, ll_2086, lr_2082, lt_2102, ll_2102, lr_2083, lt_2118, ll_2118, lr_2135, lt_2137, ll_2137, lr_4263, lt_4265, ll_4265, lr_5725, lt_5755, ll_5755, lr_5726, lt_5763, ll_5763, lr_5727, lt_5771, ll_5771, lr_5728, lt_6091, ll_6091, lr_5729, lt_6227, ll_6227, lr_5731, lt_6363, ll_6363, lr_5732, lt_6733, ll_6733, lr_5743, lt_7433, ll_7433, lr_5744, lt_7435, ll_7435, lr_5745, lt_7805, ll_7805, lr_5746, lt_7809, ll_7809, lr_5747, lt_8065, ll_8065, lr_5748, lt_8165, ll_8165, lr_5750, lt_8265, ll_8265, lr_5751, lt_8267, ll_8267, lr_5752, lt_8539, ll_8539, lr_5753, lt_9279, ll_9279, lr_731, lt_733, ll_733, lr_732, lt_899, ll_899, lr_903, lt_905, ll_905, lr_904, lt_1071, ll_1071, lr_1074, lt_1086, ll_1086, lr_1082, lt_1088, ll_1088, lr_1088, lt_1090, ll_1090, lr_1089, lt_1098, ll_1098, lr_1083, lt_1106, ll_1106, lr_1106, lt_1108, ll_1108, lr_1107, lt_1116, ll_1116, lr_1084, lt_1124, ll_1124, lr_1124, lt_1126, ll_1126, lr_1125, lt_1134, ll_1134, lr_1085, lt_1142, ll_1142, lr_1142, lt_1147, ll_1147, lr_1143, lt_1207, ll_1207, lr_1144, lt_1267, ll_1267, lr_1145, lt_1327, ll_1327, lr_1146, lt_1387, ll_1387, lr_1447, lt_1459, ll_1459, lr_1455, lt_1461, ll_1461, lr_1461, lt_1463, ll_1463, lr_1462, lt_1471, ll_1471, lr_1456, lt_1479, ll_1479, lr_1479, lt_1481, ll_1481, lr_1480, lt_1489, ll_1489, lr_1457, lt_1497, ll_1497, lr_1497, lt_1499, ll_1499, lr_1498, lt_1507, ll_1507, lr_1458, lt_1515, ll_1515, lr_1515, lt_1520, ll_1520, lr_1516, lt_1580, ll_1580, lr_1517, lt_1640, ll_1640, lr_1518, lt_1700, ll_1700, lr_1519, lt_1760, ll_1760]
  simp only [sd_cls hd, sd_cls hs, true_and]
  have e0 : hh_upd (hh_upd x d (x s)) (d + 2) (hh_upd x d (x s) (s + 2)) d = x s := by rw [hh_upd_ne (by omega), hh_upd_same]
  have e2 : hh_upd (hh_upd x d (x s)) (d + 2) (hh_upd x d (x s) (s + 2)) (d + 2) = x (s + 2) := by rw [hh_upd_same, hh_upd_ne (by omega)]
  have F0 : ∀ a, ¬ (d ≤ a ∧ a < d + 3) → hh_upd (hh_upd x d (x s)) (d + 2) (hh_upd x d (x s) (s + 2)) a = x a := fun a ha => by rw [hh_upd_ne (by omega), hh_upd_ne (by omega)]
  generalize hh_upd (hh_upd x d (x s)) (d + 2) (hh_upd x d (x s) (s + 2)) = z at e0 e2 F0 ⊢
  have one : ∀ q : Nat × hm, (q.1 ≤ 8 ∧ (∀ k, k < 5 * q.1 → q.2 (d + 12 + k) = x (s + 12 + k)) ∧ ∀ a, ¬ (d + 12 ≤ a ∧ a < d + 52) → q.2 a = z a) → At 18 [some (Vr d), some (Vr s), some (Vi q.1)] [] q.2 := by
    refine lp_m (fun q : Nat × hm => 8 - q.1) ?_
    rintro ⟨j, y⟩ ⟨a1, a2, a3⟩ ih
    dsimp only at a1 a2 a3
    refine h18 _ _ _ ?_
    simp only [hb_X7_become_80, hb_X7_become_56, hb_X7_become_50, hb_X7_become_48, hb_X7_become_24, hb_X7_become_18, hb_X7_become_0, hc_iconst, hc_lconst, hc_iload, hc_lload, hc_aload, hc_istore, hc_astore, hc_lstore, hc_iinc, hc_dup, hc_dup2, hc_pop, hc_iadd, hc_isub, hc_imul, hc_iaddw, hc_isubw, hc_imulw, hc_inegw, hc_idiv, hc_irem, hc_ineg, hc_b2, hc_b1, hc_i2l, hc_l2i, hc_ladd, hc_l2, hc_lsh, hc_lcmp, hc_if, hc_icmp, hc_jump, hc_getI, hc_getR, hc_putI, hc_putZ, hc_xald, hc_iast, hc_bast, hc_zast, hc_aald, hc_alen, hc_copy, hc_gets, hc_getsI, hc_sald, hc_ldcs, hc_sval, hc_scod, hc_slen, hc_sbald, hc_callI, hc_callL, hc_callV, hc_max, hc_min, hc_abs, hc_ireturn, hc_zreturn, hc_creturn, hc_lreturn, hc_return, hc_none, hc_switch, hv_sw, hv_get, hv_set, hv_set2, hv_mask, hv_fr, hv_noL, hv_pop, hv_pk, hv_isO, hv_isS, hv_any, hv_w, hv_cat, he_nil, he_i, he_r, he_l, hv_repl_0, hv_repl_s, if_true, if_false, and_true, true_and, and_self, Nat.zero_add, Nat.add_zero, Nat.reduceAdd, Nat.reduceLeDiff, List.length_cons, List.length_nil, Int.toNat_natCast, Bool.false_eq_true, reduceIte, Int.toNat_zero, Int.toNat_one, Int.reduceToNat, or_true, true_or, Int.reduceEq, Int.reduceLT, Int.reduceLE, Int.reduceNeg, Int.reduceAdd, Int.reduceSub, Int.reduceMul, Nat.reduceMul, Nat.reduceEqDiff, implies_true, false_implies, true_implies, not_true_eq_false, not_false_eq_true, ne_eq, or_false, false_or, and_false, false_and, or_self, Classical.not_not, Int.zero_add, Int.add_zero, lc_0, lc_22, lc_730, lc_902, lc_1074, lc_1447, lc_1824, lc_2081, lc_2135, lc_4258, lc_5723, lr_0, lt_14, ll_14, lr_2, lr_4, lr_5, lr_6, lr_7, lr_8, lt_1820, ll_1820, lr_9, lt_1822, ll_1822, lr_10, lr_11, lr_12, lr_13, lr_22, lt_30, ll_30, lr_1824, lt_1825, ll_1825, lr_2081, lt_2086, ll_2086, lr_2082, lt_2102, ll_2102, lr_2083, lt_2118, ll_2118, lr_2135, lt_2137, ll_2137, lr_4263, lt_4265, ll_4265, lr_5725, lt_5755, ll_5755, lr_5726, lt_5763, ll_5763, lr_5727, lt_5771, ll_5771, lr_5728, lt_6091, ll_6091, lr_5729, lt_6227, ll_6227, lr_5731, lt_6363, ll_6363, lr_5732, lt_6733, ll_6733, lr_5743, lt_7433, ll_7433, lr_5744, lt_7435, ll_7435, lr_5745, lt_7805, ll_7805, lr_5746, lt_7809, ll_7809, lr_5747, lt_8065, ll_8065, lr_5748, lt_8165, ll_8165, lr_5750, lt_8265, ll_8265, lr_5751, lt_8267, ll_8267, lr_5752, lt_8539, ll_8539, lr_5753, lt_9279, ll_9279, lr_731, lt_733, ll_733, lr_732, lt_899, ll_899, lr_903, lt_905, ll_905, lr_904, lt_1071, ll_1071, lr_1074, lt_1086, ll_1086, lr_1082, lt_1088, ll_1088, lr_1088, lt_1090, ll_1090, lr_1089, lt_1098, ll_1098, lr_1083, lt_1106, ll_1106, lr_1106, lt_1108, ll_1108, lr_1107, lt_1116, ll_1116, lr_1084, lt_1124, ll_1124, lr_1124, lt_1126, ll_1126, lr_1125, lt_1134, ll_1134, lr_1085, lt_1142, ll_1142, lr_1142, lt_1147, ll_1147, lr_1143, lt_1207, ll_1207, lr_1144, lt_1267, ll_1267, lr_1145, lt_1327, ll_1327, lr_1146, lt_1387, ll_1387, lr_1447, lt_1459, ll_1459, lr_1455, lt_1461, ll_1461, lr_1461, lt_1463, ll_1463, lr_1462, lt_1471, ll_1471, lr_1456, lt_1479, ll_1479, lr_1479, lt_1481, ll_1481, lr_1480, lt_1489, ll_1489, lr_1457, lt_1497, ll_1497, lr_1497, lt_1499, ll_1499, lr_1498, lt_1507, ll_1507, lr_1458, lt_1515, ll_1515, lr_1515, lt_1520, ll_1520, lr_1516, lt_1580, ll_1580, lr_1517, lt_1640, ll_1640, lr_1518, lt_1700, ll_1700, lr_1519, lt_1760, ll_1760]
    simp only [sd_cls hd, sd_cls hs, sd_rf1 hd, sd_rf1 hs, sd_t4 hd, sd_t4 hs, sd_l4 hd, sd_l4 hs, true_and]
    refine ⟨fun g => ?_, fun g => ?_⟩
    · have : j = 8 := by omega
      subst this
      have two : ∀ q : Nat × hm, (q.1 ≤ 6 ∧ (∀ k, k < 4 * q.1 → q.2 (d + 58 + k) = x (s + 58 + k)) ∧ ∀ a, ¬ (d + 58 ≤ a ∧ a < d + 82) → q.2 a = y a) → At 50 [some (Vr d), some (Vr s), some (Vi q.1)] [] q.2 := by
        refine lp_m (fun q : Nat × hm => 6 - q.1) ?_
        rintro ⟨i, v⟩ ⟨b1, b2, b3⟩ ih2
        dsimp only at b1 b2 b3
        refine h50 _ _ _ ?_
        simp only [hb_X7_become_80, hb_X7_become_56, hb_X7_become_50, hb_X7_become_48, hb_X7_become_24, hb_X7_become_18, hb_X7_become_0, hc_iconst, hc_lconst, hc_iload, hc_lload, hc_aload, hc_istore, hc_astore, hc_lstore, hc_iinc, hc_dup, hc_dup2, hc_pop, hc_iadd, hc_isub, hc_imul, hc_iaddw, hc_isubw, hc_imulw, hc_inegw, hc_idiv, hc_irem, hc_ineg, hc_b2, hc_b1, hc_i2l, hc_l2i, hc_ladd, hc_l2, hc_lsh, hc_lcmp, hc_if, hc_icmp, hc_jump, hc_getI, hc_getR, hc_putI, hc_putZ, hc_xald, hc_iast, hc_bast, hc_zast, hc_aald, hc_alen, hc_copy, hc_gets, hc_getsI, hc_sald, hc_ldcs, hc_sval, hc_scod, hc_slen, hc_sbald, hc_callI, hc_callL, hc_callV, hc_max, hc_min, hc_abs, hc_ireturn, hc_zreturn, hc_creturn, hc_lreturn, hc_return, hc_none, hc_switch, hv_sw, hv_get, hv_set, hv_set2, hv_mask, hv_fr, hv_noL, hv_pop, hv_pk, hv_isO, hv_isS, hv_any, hv_w, hv_cat, he_nil, he_i, he_r, he_l, hv_repl_0, hv_repl_s, if_true, if_false, and_true, true_and, and_self, Nat.zero_add, Nat.add_zero, Nat.reduceAdd, Nat.reduceLeDiff, List.length_cons, List.length_nil, Int.toNat_natCast, Bool.false_eq_true, reduceIte, Int.toNat_zero, Int.toNat_one, Int.reduceToNat, or_true, true_or, Int.reduceEq, Int.reduceLT, Int.reduceLE, Int.reduceNeg, Int.reduceAdd, Int.reduceSub, Int.reduceMul, Nat.reduceMul, Nat.reduceEqDiff, implies_true, false_implies, true_implies, not_true_eq_false, not_false_eq_true, ne_eq, or_false, false_or, and_false, false_and, or_self, Classical.not_not, Int.zero_add, Int.add_zero, lc_0, lc_22, lc_730, lc_902, lc_1074, lc_1447, lc_1824, lc_2081, lc_2135, lc_4258, lc_5723, lr_0, lt_14, ll_14, lr_2, lr_4, lr_5, lr_6, lr_7, lr_8, lt_1820, ll_1820, lr_9, lt_1822, ll_1822, lr_10, lr_11, lr_12, lr_13, lr_22, lt_30, ll_30, lr_1824, lt_1825, ll_1825, lr_2081, lt_2086, ll_2086, lr_2082, lt_2102, ll_2102, lr_2083, lt_2118, ll_2118, lr_2135, lt_2137, ll_2137, lr_4263, lt_4265, ll_4265, lr_5725, lt_5755, ll_5755, lr_5726, lt_5763, ll_5763, lr_5727, lt_5771, ll_5771, lr_5728, lt_6091, ll_6091, lr_5729, lt_6227, ll_6227, lr_5731, lt_6363, ll_6363, lr_5732, lt_6733, ll_6733, lr_5743, lt_7433, ll_7433, lr_5744, lt_7435, ll_7435, lr_5745, lt_7805, ll_7805, lr_5746, lt_7809, ll_7809, lr_5747, lt_8065, ll_8065, lr_5748, lt_8165, ll_8165, lr_5750, lt_8265, ll_8265, lr_5751, lt_8267, ll_8267, lr_5752, lt_8539, ll_8539, lr_5753, lt_9279, ll_9279, lr_731, lt_733, ll_733, lr_732, lt_899, ll_899, lr_903, lt_905, ll_905, lr_904, lt_1071, ll_1071, lr_1074, lt_1086, ll_1086, lr_1082, lt_1088, ll_1088, lr_1088, lt_1090, ll_1090, lr_1089, lt_1098, ll_1098, lr_1083, lt_1106, ll_1106, lr_1106, lt_1108, ll_1108, lr_1107, lt_1116, ll_1116, lr_1084, lt_1124, ll_1124, lr_1124, lt_1126, ll_1126, lr_1125, lt_1134, ll_1134, lr_1085, lt_1142, ll_1142, lr_1142, lt_1147, ll_1147, lr_1143, lt_1207, ll_1207, lr_1144, lt_1267, ll_1267, lr_1145, lt_1327, ll_1327, lr_1146, lt_1387, ll_1387, lr_1447, lt_1459, ll_1459, lr_1455, lt_1461, ll_1461, lr_1461, lt_1463, ll_1463, lr_1462, lt_1471, ll_1471, lr_1456, lt_1479, ll_1479, lr_1479, lt_1481, ll_1481, lr_1480, lt_1489, ll_1489, lr_1457, lt_1497, ll_1497, lr_1497, lt_1499, ll_1499, lr_1498, lt_1507, ll_1507, lr_1458, lt_1515, ll_1515, lr_1515, lt_1520, ll_1520, lr_1516, lt_1580, ll_1580, lr_1517, lt_1640, ll_1640, lr_1518, lt_1700, ll_1700, lr_1519, lt_1760, ll_1760]
        simp only [sd_cls hd, sd_cls hs, sd_rf3 hd, sd_rf3 hs, sd_t52 hd, sd_t52 hs, sd_l52 hd, sd_l52 hs, true_and]
        refine ⟨fun g => ?_, fun g => ?_⟩
        · have : i = 6 := by omega
          subst this
          exact h v (by rw [b3 _ (by omega), a3 _ (by omega), e0]) (by rw [b3 _ (by omega), a3 _ (by omega), e2]) (fun k hk => by rw [b3 _ (by omega), a2 k (by omega)]) (fun k hk => b2 k (by omega)) (fun a ha => by rw [b3 _ (by omega), a3 _ (by omega), F0 _ (by omega)])
        · have hi : i < 6 := by omega
          simp only [sd_r52 hd hi, sd_r52 hs hi, sd_ut hd hi, sd_ut hs hi, sd_ul hd hi, sd_ul hs hi, true_and]
          have ih2' := ih2 (i + 1, hh_cpy v (s + 58 + 4 * i) 0 (d + 58 + 4 * i) 0 4) ⟨by show i + 1 ≤ 6; omega, fun k hk => ?_, fun a ha => ?_⟩ (by show 6 - (i + 1) < 6 - i; omega)
          rotate_left
          · show hh_cpy v _ _ _ _ _ _ = _
            by_cases c : 4 * i ≤ k
            · have hk : k < 4 * (i + 1) := hk
              rw [cpy_in (by omega) (by omega), b3 _ (by omega), a3 _ (by omega), F0 _ (by omega)]
              congr 1; omega
            · rw [cpy_out (by omega)]
              exact b2 k (by omega)
          · show hh_cpy v _ _ _ _ _ _ = _
            rw [cpy_out (by omega)]
            exact b3 a ha
          (repeat' (with_reducible refine And.intro ?_ ?_)) <;> first | exact ih2' | exact trivial | omega | exact ⟨by omega, by omega⟩
      exact two (0, y) ⟨Nat.zero_le _, fun k hk => absurd hk (Nat.not_lt_zero _), fun _ _ => rfl⟩
    · have hj : j < 8 := by omega
      simp only [sd_r4 hd hj, sd_r4 hs hj, sd_tt hd hj, sd_tt hs hj, sd_tl hd hj, sd_tl hs hj, true_and]
      have ih' := ih (j + 1, hh_cpy y (s + 12 + 5 * j) 0 (d + 12 + 5 * j) 0 5) ⟨by show j + 1 ≤ 8; omega, fun k hk => ?_, fun a ha => ?_⟩ (by show 8 - (j + 1) < 8 - j; omega)
      rotate_left
      · show hh_cpy y _ _ _ _ _ _ = _
        by_cases c : 5 * j ≤ k
        · have hk : k < 5 * (j + 1) := hk
          rw [cpy_in (by omega) (by omega), a3 _ (by omega), F0 _ (by omega)]
          congr 1; omega
        · rw [cpy_out (by omega)]
          exact a2 k (by omega)
      · show hh_cpy y _ _ _ _ _ _ = _
        rw [cpy_out (by omega)]
        exact a3 a ha
      (repeat' (with_reducible refine And.intro ?_ ?_)) <;> first | exact ih' | exact trivial | omega | exact ⟨by omega, by omega⟩
  exact one (0, z) ⟨Nat.zero_le _, fun k hk => absurd hk (Nat.not_lt_zero _), fun _ _ => rfl⟩
theorem sp_matchBecome (l : Launch) {d s : Nat} (hd : IsMatch d) (hs : IsMatch s) (hne : d + 172 ≤ s ∨ s + 172 ≤ d) {x : hm} (h01 : x s = 0 ∨ x s = 1) {Q : hm → Prop} (h : ∀ y : hm, y d = x s → (∀ k, useM k → y (d + k) = x (s + k)) → (∀ a, ¬ (d ≤ a ∧ a < d + 172) → y a = x a) → Q y) : hm_V l m_X3_become 2 [Vr d, Vr s] x Q := by
  refine hr_X3_become l (Nat.le_of_ble_eq_true rfl) ?_
  simp only [hb_X3_become_0, hc_iconst, hc_lconst, hc_iload, hc_lload, hc_aload, hc_istore, hc_astore, hc_lstore, hc_iinc, hc_dup, hc_dup2, hc_pop, hc_iadd, hc_isub, hc_imul, hc_iaddw, hc_isubw, hc_imulw, hc_inegw, hc_idiv, hc_irem, hc_ineg, hc_b2, hc_b1, hc_i2l, hc_l2i, hc_ladd, hc_l2, hc_lsh, hc_lcmp, hc_if, hc_icmp, hc_jump, hc_getI, hc_getR, hc_putI, hc_putZ, hc_xald, hc_iast, hc_bast, hc_zast, hc_aald, hc_alen, hc_copy, hc_gets, hc_getsI, hc_sald, hc_ldcs, hc_sval, hc_scod, hc_slen, hc_sbald, hc_callI, hc_callL, hc_callV, hc_max, hc_min, hc_abs, hc_ireturn, hc_zreturn, hc_creturn, hc_lreturn, hc_return, hc_none, hc_switch, hv_sw, hv_get, hv_set, hv_set2, hv_mask, hv_fr, hv_noL, hv_pop, hv_pk, hv_isO, hv_isS, hv_any, hv_w, hv_cat, he_nil, he_i, he_r, he_l, hv_repl_0, hv_repl_s, if_true, if_false, and_true, true_and, and_self, Nat.zero_add, Nat.add_zero, Nat.reduceAdd, Nat.reduceLeDiff, List.length_cons, List.length_nil, Int.toNat_natCast, Bool.false_eq_true, reduceIte, Int.toNat_zero, Int.toNat_one, Int.reduceToNat, or_true, true_or, Int.reduceEq, Int.reduceLT, Int.reduceLE, Int.reduceNeg, Int.reduceAdd, Int.reduceSub, Int.reduceMul, Nat.reduceMul, Nat.reduceEqDiff, implies_true, false_implies, true_implies, not_true_eq_false, not_false_eq_true, ne_eq, or_false, false_or, and_false, false_and, or_self, Classical.not_not, Int.zero_add, Int.add_zero, lc_0, lc_22, lc_730, lc_902, lc_1074, lc_1447, lc_1824, lc_2081, lc_2135, lc_4258, lc_5723, lr_0, lt_14, ll_14, lr_2, lr_4, lr_5, lr_6, lr_7, lr_8, lt_1820, ll_1820, lr_9, lt_1822, ll_1822, lr_10, lr_11, lr_12, lr_13, lr_22, lt_30, ll_30, lr_1824, lt_1825, ll_1825, lr_2081, lt_2086, ll_2086, lr_2082, lt_2102, ll_2102, lr_2083, lt_2118, ll_2118, lr_2135, lt_2137, ll_2137, lr_4263, lt_4265, ll_4265, lr_5725, lt_5755, ll_5755, lr_5726, lt_5763, ll_5763, lr_5727, lt_5771, ll_5771, lr_5728, lt_6091, ll_6091, lr_5729, lt_6227, ll_6227, lr_5731, lt_6363, ll_6363, lr_5732, lt_6733, ll_6733, lr_5743, lt_7433, ll_7433, lr_5744, lt_7435, ll_7435, lr_5745, lt_7805, ll_7805, lr_5746, lt_7809, ll_7809, lr_5747, lt_8065, ll_8065, lr_5748, lt_8165, ll_8165, lr_5750, lt_8265, ll_8265, lr_5751, lt_8267, ll_8267, lr_5752, lt_8539, ll_8539, lr_5753, lt_9279, ll_9279, lr_731, lt_733, ll_733, lr_732, lt_899, ll_899, lr_903, lt_905, ll_905, lr_904, lt_1071, ll_1071, lr_1074, lt_1086, ll_1086, lr_1082, lt_1088, ll_1088, lr_1088, lt_1090, ll_1090, lr_1089, lt_1098, ll_1098, lr_1083, lt_1106, ll_1106, lr_1106, lt_1108, ll_1108, lr_1107, lt_1116, ll_1116, lr_1084, lt_1124, ll_1124, lr_1124, lt_1126, ll_1126, lr_1125, lt_1134, ll_1134, lr_1085, lt_1142, ll_1142, lr_1142, lt_1147, ll_1147, lr_1143, lt_1207, ll_1207, lr_1144, lt_1267, ll_1267, lr_1145, lt_1327, ll_1327, lr_1146, lt_1387, ll_1387, lr_1447, lt_1459, ll_1459, lr_1455, lt_1461, ll_1461, lr_1461, lt_1463, ll_1463, lr_1462, lt_1471, ll_1471, lr_1456, lt_1479, ll_1479, lr_1479, lt_1481, ll_1481, lr_1480, lt_1489, ll_1489, lr_1457, lt_1497, ll_1497, lr_1497, lt_1499, ll_1499, lr_1498, lt_1507, ll_1507, lr_1458, lt_1515, ll_1515, lr_1515, lt_1520, ll_1520, lr_1516, lt_1580, ll_1580, lr_1517, lt_1640, ll_1640, lr_1518, lt_1700, ll_1700, lr_1519, lt_1760, ll_1760]
  simp only [mt_cls hd, mt_cls hs, mt_rf1 hd, mt_rf1 hs, mt_rf2 hd, mt_rf2 hs, mt_t3 hd, mt_t3 hs, mt_l3 hd, mt_l3 hs, mt_r3 hd, mt_r3 hs, mt_r4 hd, mt_r4 hs, mt_t169 hd, mt_t169 hs, mt_l169 hd, mt_l169 hs, true_and]
  refine ⟨h01, ⟨by decide, by decide⟩, ⟨by decide, by decide, by decide⟩, ⟨by decide, by decide, by decide⟩, sd_cls (mt_s0 hd), ?_⟩
  have e0 : hh_cpy (hh_upd x d (x s)) (s + 169) 0 (d + 169) 0 3 d = x s := by rw [cpy_out (by omega), hh_upd_same]
  have e1 : ∀ k, 169 ≤ k → k < 172 → hh_cpy (hh_upd x d (x s)) (s + 169) 0 (d + 169) 0 3 (d + k) = x (s + k) := fun k h1 h2 => by
    rw [cpy_in (by omega) (by omega), show s + 169 + 0 + (d + k - (d + 169 + 0)) = s + k by omega, hh_upd_ne (by omega)]
  have F0 : ∀ a, a ≠ d → ¬ (d + 169 ≤ a ∧ a < d + 172) → hh_cpy (hh_upd x d (x s)) (s + 169) 0 (d + 169) 0 3 a = x a := fun a h1 h2 => by
    rw [cpy_out (by omega), hh_upd_ne h1]
  generalize hh_cpy (hh_upd x d (x s)) (s + 169) 0 (d + 169) 0 3 = z at e0 e1 F0 ⊢
  refine sp_sideBecome l (mt_s0 hd) (mt_s0 hs) (by omega) (fun y a1 a2 a3 a4 a5 => ?_)
  refine ⟨⟨by decide, by decide, by decide⟩, ⟨by decide, by decide, by decide⟩, sd_cls (mt_s1 hd), ?_⟩
  refine sp_sideBecome l (mt_s1 hd) (mt_s1 hs) (by omega) (fun v b1 b2 b3 b4 b5 => ?_)
  refine h v (by rw [b5 _ (by omega), a5 _ (by omega), e0]) (fun k hk => ?_) (fun a ha => by rw [b5 _ (by omega), a5 _ (by omega), F0 _ (by omega) (by omega)])
  unfold useM at hk
  have A : ∀ j, 5 ≤ j → j < 87 → v (d + j) = y (d + j) := fun j h1 h2 => b5 _ (by omega)
  have B : ∀ j, 5 ≤ j → j < 172 → z (s + j) = x (s + j) := fun j h1 h2 => F0 _ (by omega) (by omega)
  have C : ∀ j, 87 ≤ j → j < 172 → y (s + j) = x (s + j) := fun j h1 h2 => by rw [a5 _ (by omega)]; exact B j (by omega) h2
  rcases hk with rfl | rfl | rfl | rfl | ⟨h1, h2⟩ | ⟨h1, h2⟩ | ⟨h1, h2⟩ | ⟨h1, h2⟩
  · rw [A 5 (by omega) (by omega), a1, B 5 (by omega) (by omega)]
  · rw [A 7 (by omega) (by omega), a2, B 7 (by omega) (by omega)]
  · rw [b1, C 87 (by omega) (by omega)]
  · rw [b2, C 89 (by omega) (by omega)]
  · rw [A k (by omega) (by omega)]
    have := a3 (k - 17) (by omega)
    rw [show d + 5 + 12 + (k - 17) = d + k by omega, show s + 5 + 12 + (k - 17) = s + k by omega] at this
    rw [this, B k (by omega) (by omega)]
  · rw [A k (by omega) (by omega)]
    have := a4 (k - 63) (by omega)
    rw [show d + 5 + 58 + (k - 63) = d + k by omega, show s + 5 + 58 + (k - 63) = s + k by omega] at this
    rw [this, B k (by omega) (by omega)]
  · have := b3 (k - 99) (by omega)
    rw [show d + 87 + 12 + (k - 99) = d + k by omega, show s + 87 + 12 + (k - 99) = s + k by omega] at this
    rw [this, C k (by omega) (by omega)]
  · by_cases c : k < 169
    · have := b4 (k - 145) (by omega)
      rw [show d + 87 + 58 + (k - 145) = d + k by omega, show s + 87 + 58 + (k - 145) = s + k by omega] at this
      rw [this, C k (by omega) (by omega)]
    · rw [b5 _ (by omega), a5 _ (by omega), e1 k (by omega) h2]
theorem sp_tugBecome (l : Launch) {d s : Nat} (hd : IsTug d) (hs : IsTug s) (hne : d + 373 ≤ s ∨ s + 373 ≤ d) {x : hm} (h01 : x (s + 1) = 0 ∨ x (s + 1) = 1) {Q : hm → Prop} (h : ∀ y : hm, (∀ k, useT k → y (d + k) = x (s + k)) → (∀ a, ¬ (d ≤ a ∧ a < d + 373) → y a = x a) → Q y) : hm_V l m_X8_become 1 [Vr d, Vr s] x Q := by
  refine hr_X8_become l (Nat.le_of_ble_eq_true rfl) ?_
  intro At h72 h142
  simp only [hb_X8_become_172, hb_X8_become_147, hb_X8_become_142, hb_X8_become_140, hb_X8_become_77, hb_X8_become_72, hb_X8_become_0, hc_iconst, hc_lconst, hc_iload, hc_lload, hc_aload, hc_istore, hc_astore, hc_lstore, hc_iinc, hc_dup, hc_dup2, hc_pop, hc_iadd, hc_isub, hc_imul, hc_iaddw, hc_isubw, hc_imulw, hc_inegw, hc_idiv, hc_irem, hc_ineg, hc_b2, hc_b1, hc_i2l, hc_l2i, hc_ladd, hc_l2, hc_lsh, hc_lcmp, hc_if, hc_icmp, hc_jump, hc_getI, hc_getR, hc_putI, hc_putZ, hc_xald, hc_iast, hc_bast, hc_zast, hc_aald, hc_alen, hc_copy, hc_gets, hc_getsI, hc_sald, hc_ldcs, hc_sval, hc_scod, hc_slen, hc_sbald, hc_callI, hc_callL, hc_callV, hc_max, hc_min, hc_abs, hc_ireturn, hc_zreturn, hc_creturn, hc_lreturn, hc_return, hc_none, hc_switch, hv_sw, hv_get, hv_set, hv_set2, hv_mask, hv_fr, hv_noL, hv_pop, hv_pk, hv_isO, hv_isS, hv_any, hv_w, hv_cat, he_nil, he_i, he_r, he_l, hv_repl_0, hv_repl_s, if_true, if_false, and_true, true_and, and_self, Nat.zero_add, Nat.add_zero, Nat.reduceAdd, Nat.reduceLeDiff, List.length_cons, List.length_nil, Int.toNat_natCast, Bool.false_eq_true, reduceIte, Int.toNat_zero, Int.toNat_one, Int.reduceToNat, or_true, true_or, Int.reduceEq, Int.reduceLT, Int.reduceLE, Int.reduceNeg, Int.reduceAdd, Int.reduceSub, Int.reduceMul, Nat.reduceMul, Nat.reduceEqDiff, implies_true, false_implies, true_implies, not_true_eq_false, not_false_eq_true, ne_eq, or_false, false_or, and_false, false_and, or_self, Classical.not_not, Int.zero_add, Int.add_zero, lc_0, lc_22, lc_730, lc_902, lc_1074, lc_1447, lc_1824, lc_2081, lc_2135, lc_4258, lc_5723, lr_0, lt_14, ll_14, lr_2, lr_4, lr_5, lr_6, lr_7, lr_8, lt_1820, ll_1820, lr_9, lt_1822, ll_1822, lr_10, lr_11, lr_12, lr_13, lr_22, lt_30, ll_30, lr_1824, lt_1825, ll_1825, lr_2081, lt_2086, ll_2086, lr_2082, lt_2102, ll_2102, lr_2083, lt_2118, ll_2118, lr_2135, lt_2137, ll_2137, lr_4263, lt_4265, ll_4265, lr_5725, lt_5755, ll_5755, lr_5726, lt_5763, ll_5763, lr_5727, lt_5771, ll_5771, lr_5728, lt_6091, ll_6091, lr_5729, lt_6227, ll_6227, lr_5731, lt_6363, ll_6363, lr_5732, lt_6733, ll_6733, lr_5743, lt_7433, ll_7433, lr_5744, lt_7435, ll_7435, lr_5745, lt_7805, ll_7805, lr_5746, lt_7809, ll_7809, lr_5747, lt_8065, ll_8065, lr_5748, lt_8165, ll_8165, lr_5750, lt_8265, ll_8265, lr_5751, lt_8267, ll_8267, lr_5752, lt_8539, ll_8539, lr_5753, lt_9279, ll_9279, lr_731, lt_733, ll_733, lr_732, lt_899, ll_899, lr_903, lt_905, ll_905, lr_904, lt_1071, ll_1071, lr_1074, lt_1086, ll_1086, lr_1082, lt_1088, ll_1088, lr_1088, lt_1090, ll_1090, lr_1089, lt_1098, ll_1098, lr_1083, lt_1106, ll_1106, lr_1106, lt_1108, ll_1108, lr_1107, lt_1116, ll_1116, lr_1084, lt_1124, ll_1124, lr_1124, lt_1126, ll_1126, lr_1125, lt_1134, ll_1134, lr_1085, lt_1142, ll_1142, lr_1142, lt_1147, ll_1147, lr_1143, lt_1207, ll_1207, lr_1144, lt_1267, ll_1267, lr_1145, lt_1327, ll_1327, lr_1146, lt_1387, ll_1387, lr_1447, lt_1459, ll_1459, lr_1455, lt_1461, ll_1461, lr_1461, lt_1463, ll_1463, lr_1462, lt_1471, ll_1471, lr_1456, lt_1479, ll_1479, lr_1479, lt_1481, ll_1481, lr_1480, lt_1489, ll_1489, lr_1457, lt_1497, ll_1497, lr_1497, lt_1499, ll_1499, lr_1498, lt_1507, ll_1507, lr_1458, lt_1515, ll_1515, lr_1515, lt_1520, ll_1520, lr_1516, lt_1580, ll_1580, lr_1517, lt_1640, ll_1640, lr_1518, lt_1700, ll_1700, lr_1519, lt_1760, ll_1760]
  simp only [tg_cls hd, tg_cls hs, tg_rf0 hd, tg_rf0 hs, tg_t12 hd, tg_t12 hs, tg_l12 hd, tg_l12 hs, true_and]
  have u2 : ∀ (m : hm) v i j, 1 ≤ i → i ≤ 7 → 1 ≤ j → j ≤ 7 → hh_upd m (d + i) v (s + j) = m (s + j) := fun m v i j h1 h2 h3 h4 => hh_upd_ne (by omega)
  simp only [u2, Nat.reduceLeDiff, Nat.le_refl]
  refine ⟨h01, ⟨by decide, by decide⟩, ?_⟩
  have e0 : ∀ k, (1 ≤ k ∧ k < 8) ∨ k = 12 ∨ k = 13 → hh_cpy (hh_upd (hh_upd (hh_upd (hh_upd (hh_upd (hh_upd (hh_upd x (d + 1) (x (s + 1))) (d + 2) (x (s + 2))) (d + 3) (x (s + 3))) (d + 4) (x (s + 4))) (d + 5) (x (s + 5))) (d + 6) (x (s + 6))) (d + 7) (x (s + 7))) (s + 12) 0 (d + 12) 0 2 (d + k) = x (s + k) := fun k hk => by
    rcases (show k = 1 ∨ k = 2 ∨ k = 3 ∨ k = 4 ∨ k = 5 ∨ k = 6 ∨ k = 7 ∨ (12 ≤ k ∧ k < 14) by omega) with rfl | rfl | rfl | rfl | rfl | rfl | rfl | ⟨c1, c2⟩
    · rw [cpy_out (by omega)]; simp [hh_upd]
    · rw [cpy_out (by omega)]; simp [hh_upd]
    · rw [cpy_out (by omega)]; simp [hh_upd]
    · rw [cpy_out (by omega)]; simp [hh_upd]
    · rw [cpy_out (by omega)]; simp [hh_upd]
    · rw [cpy_out (by omega)]; simp [hh_upd]
    · rw [cpy_out (by omega)]; simp [hh_upd]
    · rw [cpy_in (by omega) (by omega), show s + 12 + 0 + (d + k - (d + 12 + 0)) = s + k by omega, hh_upd_ne (by omega), hh_upd_ne (by omega), hh_upd_ne (by omega), hh_upd_ne (by omega), hh_upd_ne (by omega), hh_upd_ne (by omega), hh_upd_ne (by omega)]
  have F0 : ∀ a, ¬ (d ≤ a ∧ a < d + 14) → hh_cpy (hh_upd (hh_upd (hh_upd (hh_upd (hh_upd (hh_upd (hh_upd x (d + 1) (x (s + 1))) (d + 2) (x (s + 2))) (d + 3) (x (s + 3))) (d + 4) (x (s + 4))) (d + 5) (x (s + 5))) (d + 6) (x (s + 6))) (d + 7) (x (s + 7))) (s + 12) 0 (d + 12) 0 2 a = x a := fun a ha => by
    rw [cpy_out (by omega), hh_upd_ne (by omega), hh_upd_ne (by omega), hh_upd_ne (by omega), hh_upd_ne (by omega), hh_upd_ne (by omega), hh_upd_ne (by omega), hh_upd_ne (by omega)]
  generalize hh_cpy (hh_upd (hh_upd (hh_upd (hh_upd (hh_upd (hh_upd (hh_upd x (d + 1) (x (s + 1))) (d + 2) (x (s + 2))) (d + 3) (x (s + 3))) (d + 4) (x (s + 4))) (d + 5) (x (s + 5))) (d + 6) (x (s + 6))) (d + 7) (x (s + 7))) (s + 12) 0 (d + 12) 0 2 = z at e0 F0 ⊢
  have one : ∀ q : Nat × hm, (q.1 ≤ 2 ∧ (∀ k, k < 8 * q.1 → q.2 (d + 16 + k) = x (s + 16 + k) ∧ q.2 (d + 34 + k) = x (s + 34 + k) ∧ q.2 (d + 52 + k) = x (s + 52 + k)) ∧ ∀ a, ¬ (d + 16 ≤ a ∧ a < d + 68) → q.2 a = z a) → At 72 [some (Vr d), some (Vr s), some (Vi q.1)] [] q.2 := by
    refine lp_m (fun q : Nat × hm => 2 - q.1) ?_
    rintro ⟨j, y⟩ ⟨a1, a2, a3⟩ ih
    dsimp only at a1 a2 a3
    refine h72 _ _ _ ?_
    simp only [hb_X8_become_172, hb_X8_become_147, hb_X8_become_142, hb_X8_become_140, hb_X8_become_77, hb_X8_become_72, hb_X8_become_0, hc_iconst, hc_lconst, hc_iload, hc_lload, hc_aload, hc_istore, hc_astore, hc_lstore, hc_iinc, hc_dup, hc_dup2, hc_pop, hc_iadd, hc_isub, hc_imul, hc_iaddw, hc_isubw, hc_imulw, hc_inegw, hc_idiv, hc_irem, hc_ineg, hc_b2, hc_b1, hc_i2l, hc_l2i, hc_ladd, hc_l2, hc_lsh, hc_lcmp, hc_if, hc_icmp, hc_jump, hc_getI, hc_getR, hc_putI, hc_putZ, hc_xald, hc_iast, hc_bast, hc_zast, hc_aald, hc_alen, hc_copy, hc_gets, hc_getsI, hc_sald, hc_ldcs, hc_sval, hc_scod, hc_slen, hc_sbald, hc_callI, hc_callL, hc_callV, hc_max, hc_min, hc_abs, hc_ireturn, hc_zreturn, hc_creturn, hc_lreturn, hc_return, hc_none, hc_switch, hv_sw, hv_get, hv_set, hv_set2, hv_mask, hv_fr, hv_noL, hv_pop, hv_pk, hv_isO, hv_isS, hv_any, hv_w, hv_cat, he_nil, he_i, he_r, he_l, hv_repl_0, hv_repl_s, if_true, if_false, and_true, true_and, and_self, Nat.zero_add, Nat.add_zero, Nat.reduceAdd, Nat.reduceLeDiff, List.length_cons, List.length_nil, Int.toNat_natCast, Bool.false_eq_true, reduceIte, Int.toNat_zero, Int.toNat_one, Int.reduceToNat, or_true, true_or, Int.reduceEq, Int.reduceLT, Int.reduceLE, Int.reduceNeg, Int.reduceAdd, Int.reduceSub, Int.reduceMul, Nat.reduceMul, Nat.reduceEqDiff, implies_true, false_implies, true_implies, not_true_eq_false, not_false_eq_true, ne_eq, or_false, false_or, and_false, false_and, or_self, Classical.not_not, Int.zero_add, Int.add_zero, lc_0, lc_22, lc_730, lc_902, lc_1074, lc_1447, lc_1824, lc_2081, lc_2135, lc_4258, lc_5723, lr_0, lt_14, ll_14, lr_2, lr_4, lr_5, lr_6, lr_7, lr_8, lt_1820, ll_1820, lr_9, lt_1822, ll_1822, lr_10, lr_11, lr_12, lr_13, lr_22, lt_30, ll_30, lr_1824, lt_1825, ll_1825, lr_2081, lt_2086, ll_2086, lr_2082, lt_2102, ll_2102, lr_2083, lt_2118, ll_2118, lr_2135, lt_2137, ll_2137, lr_4263, lt_4265, ll_4265, lr_5725, lt_5755, ll_5755, lr_5726, lt_5763, ll_5763, lr_5727, lt_5771, ll_5771, lr_5728, lt_6091, ll_6091, lr_5729, lt_6227, ll_6227, lr_5731, lt_6363, ll_6363, lr_5732, lt_6733, ll_6733, lr_5743, lt_7433, ll_7433, lr_5744, lt_7435, ll_7435, lr_5745, lt_7805, ll_7805, lr_5746, lt_7809, ll_7809, lr_5747, lt_8065, ll_8065, lr_5748, lt_8165, ll_8165, lr_5750, lt_8265, ll_8265, lr_5751, lt_8267, ll_8267, lr_5752, lt_8539, ll_8539, lr_5753, lt_9279, ll_9279, lr_731, lt_733, ll_733, lr_732, lt_899, ll_899, lr_903, lt_905, ll_905, lr_904, lt_1071, ll_1071, lr_1074, lt_1086, ll_1086, lr_1082, lt_1088, ll_1088, lr_1088, lt_1090, ll_1090, lr_1089, lt_1098, ll_1098, lr_1083, lt_1106, ll_1106, lr_1106, lt_1108, ll_1108, lr_1107, lt_1116, ll_1116, lr_1084, lt_1124, ll_1124, lr_1124, lt_1126, ll_1126, lr_1125, lt_1134, ll_1134, lr_1085, lt_1142, ll_1142, lr_1142, lt_1147, ll_1147, lr_1143, lt_1207, ll_1207, lr_1144, lt_1267, ll_1267, lr_1145, lt_1327, ll_1327, lr_1146, lt_1387, ll_1387, lr_1447, lt_1459, ll_1459, lr_1455, lt_1461, ll_1461, lr_1461, lt_1463, ll_1463, lr_1462, lt_1471, ll_1471, lr_1456, lt_1479, ll_1479, lr_1479, lt_1481, ll_1481, lr_1480, lt_1489, ll_1489, lr_1457, lt_1497, ll_1497, lr_1497, lt_1499, ll_1499, lr_1498, lt_1507, ll_1507, lr_1458, lt_1515, ll_1515, lr_1515, lt_1520, ll_1520, lr_1516, lt_1580, ll_1580, lr_1517, lt_1640, ll_1640, lr_1518, lt_1700, ll_1700, lr_1519, lt_1760, ll_1760]
    simp only [tg_cls hd, tg_cls hs, tg_rf8 hd, tg_rf8 hs, tg_t14 hd, tg_t14 hs, tg_l14 hd, tg_l14 hs, tg_rf9 hd, tg_rf9 hs, tg_t32 hd, tg_t32 hs, tg_l32 hd, tg_l32 hs, tg_rf10 hd, tg_rf10 hs, tg_t50 hd, tg_t50 hs, tg_l50 hd, tg_l50 hs, true_and]
    refine ⟨fun g => ?_, fun g => ?_⟩
    · have : j = 2 := by omega
      subst this
      have two : ∀ q : Nat × hm, (q.1 ≤ 5 ∧ (∀ k, k < 60 * q.1 → q.2 (d + 73 + k) = x (s + 73 + k)) ∧ ∀ a, ¬ (d + 73 ≤ a ∧ a < d + 373) → q.2 a = y a) → At 142 [some (Vr d), some (Vr s), some (Vi q.1)] [] q.2 := by
        refine lp_m (fun q : Nat × hm => 5 - q.1) ?_
        rintro ⟨i, v⟩ ⟨b1, b2, b3⟩ ih2
        dsimp only at b1 b2 b3
        refine h142 _ _ _ ?_
        simp only [hb_X8_become_172, hb_X8_become_147, hb_X8_become_142, hb_X8_become_140, hb_X8_become_77, hb_X8_become_72, hb_X8_become_0, hc_iconst, hc_lconst, hc_iload, hc_lload, hc_aload, hc_istore, hc_astore, hc_lstore, hc_iinc, hc_dup, hc_dup2, hc_pop, hc_iadd, hc_isub, hc_imul, hc_iaddw, hc_isubw, hc_imulw, hc_inegw, hc_idiv, hc_irem, hc_ineg, hc_b2, hc_b1, hc_i2l, hc_l2i, hc_ladd, hc_l2, hc_lsh, hc_lcmp, hc_if, hc_icmp, hc_jump, hc_getI, hc_getR, hc_putI, hc_putZ, hc_xald, hc_iast, hc_bast, hc_zast, hc_aald, hc_alen, hc_copy, hc_gets, hc_getsI, hc_sald, hc_ldcs, hc_sval, hc_scod, hc_slen, hc_sbald, hc_callI, hc_callL, hc_callV, hc_max, hc_min, hc_abs, hc_ireturn, hc_zreturn, hc_creturn, hc_lreturn, hc_return, hc_none, hc_switch, hv_sw, hv_get, hv_set, hv_set2, hv_mask, hv_fr, hv_noL, hv_pop, hv_pk, hv_isO, hv_isS, hv_any, hv_w, hv_cat, he_nil, he_i, he_r, he_l, hv_repl_0, hv_repl_s, if_true, if_false, and_true, true_and, and_self, Nat.zero_add, Nat.add_zero, Nat.reduceAdd, Nat.reduceLeDiff, List.length_cons, List.length_nil, Int.toNat_natCast, Bool.false_eq_true, reduceIte, Int.toNat_zero, Int.toNat_one, Int.reduceToNat, or_true, true_or, Int.reduceEq, Int.reduceLT, Int.reduceLE, Int.reduceNeg, Int.reduceAdd, Int.reduceSub, Int.reduceMul, Nat.reduceMul, Nat.reduceEqDiff, implies_true, false_implies, true_implies, not_true_eq_false, not_false_eq_true, ne_eq, or_false, false_or, and_false, false_and, or_self, Classical.not_not, Int.zero_add, Int.add_zero, lc_0, lc_22, lc_730, lc_902, lc_1074, lc_1447, lc_1824, lc_2081, lc_2135, lc_4258, lc_5723, lr_0, lt_14, ll_14, lr_2, lr_4, lr_5, lr_6, lr_7, lr_8, lt_1820, ll_1820, lr_9, lt_1822, ll_1822, lr_10, lr_11, lr_12, lr_13, lr_22, lt_30, ll_30, lr_1824, lt_1825, ll_1825, lr_2081, lt_2086, ll_2086, lr_2082, lt_2102, ll_2102, lr_2083, lt_2118, ll_2118, lr_2135, lt_2137, ll_2137, lr_4263, lt_4265, ll_4265, lr_5725, lt_5755, ll_5755, lr_5726, lt_5763, ll_5763, lr_5727, lt_5771, ll_5771, lr_5728, lt_6091, ll_6091, lr_5729, lt_6227, ll_6227, lr_5731, lt_6363, ll_6363, lr_5732, lt_6733, ll_6733, lr_5743, lt_7433, ll_7433, lr_5744, lt_7435, ll_7435, lr_5745, lt_7805, ll_7805, lr_5746, lt_7809, ll_7809, lr_5747, lt_8065, ll_8065, lr_5748, lt_8165, ll_8165, lr_5750, lt_8265, ll_8265, lr_5751, lt_8267, ll_8267, lr_5752, lt_8539, ll_8539, lr_5753, lt_9279, ll_9279, lr_731, lt_733, ll_733, lr_732, lt_899, ll_899, lr_903, lt_905, ll_905, lr_904, lt_1071, ll_1071, lr_1074, lt_1086, ll_1086, lr_1082, lt_1088, ll_1088, lr_1088, lt_1090, ll_1090, lr_1089, lt_1098, ll_1098, lr_1083, lt_1106, ll_1106, lr_1106, lt_1108, ll_1108, lr_1107, lt_1116, ll_1116, lr_1084, lt_1124, ll_1124, lr_1124, lt_1126, ll_1126, lr_1125, lt_1134, ll_1134, lr_1085, lt_1142, ll_1142, lr_1142, lt_1147, ll_1147, lr_1143, lt_1207, ll_1207, lr_1144, lt_1267, ll_1267, lr_1145, lt_1327, ll_1327, lr_1146, lt_1387, ll_1387, lr_1447, lt_1459, ll_1459, lr_1455, lt_1461, ll_1461, lr_1461, lt_1463, ll_1463, lr_1462, lt_1471, ll_1471, lr_1456, lt_1479, ll_1479, lr_1479, lt_1481, ll_1481, lr_1480, lt_1489, ll_1489, lr_1457, lt_1497, ll_1497, lr_1497, lt_1499, ll_1499, lr_1498, lt_1507, ll_1507, lr_1458, lt_1515, ll_1515, lr_1515, lt_1520, ll_1520, lr_1516, lt_1580, ll_1580, lr_1517, lt_1640, ll_1640, lr_1518, lt_1700, ll_1700, lr_1519, lt_1760, ll_1760]
        simp only [tg_cls hd, tg_cls hs, tg_rf11 hd, tg_rf11 hs, tg_t68 hd, tg_t68 hs, tg_l68 hd, tg_l68 hs, true_and]
        refine ⟨fun g => ?_, fun g => ?_⟩
        · have : i = 5 := by omega
          subst this
          refine h v (fun k hk => ?_) (fun a ha => by rw [b3 _ (by omega), a3 _ (by omega), F0 _ (by omega)])
          unfold useT at hk
          rcases hk with h1 | h1 | h1 | h1 | h1 | h1 | h1
          · rw [b3 _ (by omega), a3 _ (by omega), e0 _ (by omega)]
          · rw [b3 _ (by omega), a3 _ (by omega), e0 _ (by omega)]
          · rw [b3 _ (by omega), a3 _ (by omega), e0 _ (by omega)]
          · have := (a2 (k - 16) (by omega)).1
            rw [show d + 16 + (k - 16) = d + k by omega, show s + 16 + (k - 16) = s + k by omega] at this
            rw [b3 _ (by omega), this]
          · have := (a2 (k - 34) (by omega)).2.1
            rw [show d + 34 + (k - 34) = d + k by omega, show s + 34 + (k - 34) = s + k by omega] at this
            rw [b3 _ (by omega), this]
          · have := (a2 (k - 52) (by omega)).2.2
            rw [show d + 52 + (k - 52) = d + k by omega, show s + 52 + (k - 52) = s + k by omega] at this
            rw [b3 _ (by omega), this]
          · have := b2 (k - 73) (by omega)
            rw [show d + 73 + (k - 73) = d + k by omega, show s + 73 + (k - 73) = s + k by omega] at this
            exact this
        · have hi : i < 5 := by omega
          simp only [tk_rf_ke hd hi, tk_rf_ke hs hi, tk_tag_ke hd hi, tk_tag_ke hs hi, tk_len_ke hd hi, tk_len_ke hs hi, true_and]
          have ih2' := ih2 (i + 1, hh_cpy v (s + 73 + 60 * i) 0 (d + 73 + 60 * i) 0 60) ⟨by show i + 1 ≤ 5; omega, fun k hk => ?_, fun a ha => ?_⟩ (by show 5 - (i + 1) < 5 - i; omega)
          rotate_left
          · show hh_cpy v _ _ _ _ _ _ = _
            by_cases c : 60 * i ≤ k
            · have hk : k < 60 * (i + 1) := hk
              rw [cpy_in (by omega) (by omega), show s + 73 + 60 * i + 0 + (d + 73 + k - (d + 73 + 60 * i + 0)) = s + 73 + k by omega, b3 _ (by omega), a3 _ (by omega), F0 _ (by omega)]
            · rw [cpy_out (by omega)]
              exact b2 k (by omega)
          · show hh_cpy v _ _ _ _ _ _ = _
            rw [cpy_out (by omega)]
            exact b3 a ha
          (repeat' (with_reducible refine And.intro ?_ ?_)) <;> first | exact ih2' | exact trivial | omega | exact ⟨by omega, by omega⟩
      exact two (0, y) ⟨Nat.zero_le _, fun k hk => absurd hk (Nat.not_lt_zero _), fun _ _ => rfl⟩
    · have hj : j < 2 := by omega
      simp only [tk_rf_br hd hj, tk_rf_br hs hj, tk_tag_br hd hj, tk_tag_br hs hj, tk_len_br hd hj, tk_len_br hs hj, tk_rf_did hd hj, tk_rf_did hs hj, tk_tag_did hd hj, tk_tag_did hs hj, tk_len_did hd hj, tk_len_did hs hj, tk_rf_fo hd hj, tk_rf_fo hs hj, tk_tag_fo hd hj, tk_tag_fo hs hj, tk_len_fo hd hj, tk_len_fo hs hj, true_and]
      have S : ∀ a, s ≤ a → a < s + 373 → y a = x a := fun a h1 h2 => by rw [a3 _ (by omega), F0 _ (by omega)]
      have ih' := ih (j + 1, hh_cpy (hh_cpy (hh_cpy y (s + 16 + 8 * j) 0 (d + 16 + 8 * j) 0 8) (s + 34 + 8 * j) 0 (d + 34 + 8 * j) 0 8) (s + 52 + 8 * j) 0 (d + 52 + 8 * j) 0 8) ⟨by show j + 1 ≤ 2; omega, fun k hk => ?_, fun a ha => ?_⟩ (by show 2 - (j + 1) < 2 - j; omega)
      rotate_left
      · show hh_cpy (hh_cpy (hh_cpy y _ _ _ _ _) _ _ _ _ _) _ _ _ _ _ _ = _ ∧ hh_cpy (hh_cpy (hh_cpy y _ _ _ _ _) _ _ _ _ _) _ _ _ _ _ _ = _ ∧ hh_cpy (hh_cpy (hh_cpy y _ _ _ _ _) _ _ _ _ _) _ _ _ _ _ _ = _
        by_cases c : 8 * j ≤ k
        · have hk : k < 8 * (j + 1) := hk
          refine ⟨?_, ?_, ?_⟩
          · rw [cpy_out (by omega), cpy_out (by omega), cpy_in (by omega) (by omega), show s + 16 + 8 * j + 0 + (d + 16 + k - (d + 16 + 8 * j + 0)) = s + 16 + k by omega, S _ (by omega) (by omega)]
          · rw [cpy_out (by omega), cpy_in (by omega) (by omega), show s + 34 + 8 * j + 0 + (d + 34 + k - (d + 34 + 8 * j + 0)) = s + 34 + k by omega, cpy_out (by omega), S _ (by omega) (by omega)]
          · rw [cpy_in (by omega) (by omega), show s + 52 + 8 * j + 0 + (d + 52 + k - (d + 52 + 8 * j + 0)) = s + 52 + k by omega, cpy_out (by omega), cpy_out (by omega), S _ (by omega) (by omega)]
        · have := a2 k (by omega)
          refine ⟨?_, ?_, ?_⟩
          · rw [cpy_out (by omega), cpy_out (by omega), cpy_out (by omega)]; exact this.1
          · rw [cpy_out (by omega), cpy_out (by omega), cpy_out (by omega)]; exact this.2.1
          · rw [cpy_out (by omega), cpy_out (by omega), cpy_out (by omega)]; exact this.2.2
      · show hh_cpy (hh_cpy (hh_cpy y _ _ _ _ _) _ _ _ _ _) _ _ _ _ _ _ = _
        rw [cpy_out (by omega), cpy_out (by omega), cpy_out (by omega)]
        exact a3 a ha
      (repeat' (with_reducible refine And.intro ?_ ?_)) <;> first | exact ih' | exact trivial | omega | exact ⟨by omega, by omega⟩
  exact one (0, z) ⟨Nat.zero_le _, fun k hk => absurd hk (Nat.not_lt_zero _), fun _ _ => rfl⟩
