/-! stands: the path, and the reference's weights -/
def pth (W : Nat → Nat → Int) (T : Nat → Int) (c : Nat) : Nat → Nat
  | 0 => 0
  | k + 1 => pth W T c k + 2 ^ (mxp W T (pth W T c k) c).toNat
theorem pc_full : ∀ c, c ≤ 8 → pc (2 ^ c - 1) = c := by decide
/-- a right table leads on -/
theorem okF_next {W : Nat → Nat → Int} {c : Nat} (hc : c ≤ 8) (hW : okW W c) {T : Nat → Int} (h : okF W c T 0) {s : Nat} (hs1 : s < 2 ^ c - 1) : ∃ b : Nat, mxp W T s c = b ∧ b < c ∧ hs s b = 0 ∧ T s = vl W T s b ∧ ∀ q, q < c → hs s q = 0 → vl W T s q ≤ vl W T s b ∧ (q < b → vl W T s q < vl W T s b) := by
  have hpow := pow_b hc
  have v0 : ∀ p, p < c → hs s p = 0 → 0 ≤ vl W T s p := fun p hp hp0 => by
    have := okF_b hc hW h (2 ^ c - 1 - (s + 2 ^ p)) (s + 2 ^ p) (by have := b_in c hc s (by omega) p hp hp0; omega) (Nat.zero_le _)
    have hw := hW (pc s) p (pc_b s) hp
    unfold vl
    omega
  rcases mx_at v0 c (Nat.le_refl _) with ⟨-, -, a3⟩ | ⟨b, a1, a2, a3, a4, a5⟩
  · obtain ⟨p, hp, hp0⟩ := b_ex c hc s hs1
    have := a3 p hp; rw [this] at hp0; exact absurd hp0 (by decide)
  · exact ⟨b, a1, a2, a3, by rw [h.2 s (Nat.zero_le _) hs1, a4], a5⟩
theorem pth_b {W : Nat → Nat → Int} {c : Nat} (hc : c ≤ 8) (hW : okW W c) {T : Nat → Int} (h : okF W c T 0) : ∀ k, k ≤ c → pth W T c k < 2 ^ c ∧ pc (pth W T c k) = k
  | 0, _ => ⟨by have := pow_b hc; show 0 < 2 ^ c; omega, by show pc 0 = 0; decide⟩
  | k + 1, hk => by
    have ih := pth_b hc hW h k (by omega)
    have hpow := pow_b hc
    have hlt : pth W T c k < 2 ^ c - 1 := by
      by_cases e : pth W T c k = 2 ^ c - 1
      · have := pc_full c hc
        rw [← e, ih.2] at this
        omega
      · omega
    obtain ⟨b, b1, b2, b3, -, -⟩ := okF_next hc hW h hlt
    show pth W T c k + 2 ^ (mxp W T (pth W T c k) c).toNat < 2 ^ c ∧ pc (pth W T c k + 2 ^ (mxp W T (pth W T c k) c).toNat) = k + 1
    rw [b1, Int.toNat_natCast]
    exact ⟨b_in c hc _ ih.1 b b2 b3, by rw [(b_add _ (by omega) b (by omega) b3).2.2, ih.2]⟩
theorem pth_lt {W : Nat → Nat → Int} {c : Nat} (hc : c ≤ 8) (hW : okW W c) {T : Nat → Int} (h : okF W c T 0) {k : Nat} (hk : k < c) : pth W T c k < 2 ^ c - 1 := by
  have ih := pth_b hc hW h k (by omega)
  have hpow := pow_b hc
  by_cases e : pth W T c k = 2 ^ c - 1
  · have := pc_full c hc
    rw [← e, ih.2] at this
    omega
  · omega
theorem sp_pullerAt (l : Launch) {x y : hm} {sd c : Nat} (hS : okS x sd c) (hf : fP x y) (hF : okF (Wt x sd c) c (fun u => y (1825 + u)) 0) {k : Nat} (hk : k < c) {Q : Int → hm → Prop} (h : Q (mxp (Wt x sd c) (fun u => y (1825 + u)) (pth (Wt x sd c) (fun u => y (1825 + u)) c k) c) y) : hm_I l m_X4_pullerAt 4 [Vr 1824, Vr (735 + 82 * sd), Vi k] y Q := by
  have hS' := hS
  obtain ⟨h1, h2, h3, h4, h5⟩ := hS'
  have hpow := pow_b h2
  have hW := Wt_b hS
  have hTb : ∀ u, u < 2 ^ c → 0 ≤ y (1825 + u) ∧ y (1825 + u) ≤ 60000 * 256 := fun u u2 => by
    have := okF_b h2 hW hF (2 ^ c - 1 - u) u (by omega) (by omega)
    omega
  refine hr_X4_pullerAt l (Nat.le_of_ble_eq_true rfl) ?_
  intro At h5'
  simp only [hb_X4_pullerAt_28, hb_X4_pullerAt_11, hb_X4_pullerAt_5, hb_X4_pullerAt_0, hc_iconst, hc_lconst, hc_iload, hc_lload, hc_aload, hc_istore, hc_astore, hc_lstore, hc_iinc, hc_dup, hc_dup2, hc_pop, hc_iadd, hc_isub, hc_imul, hc_iaddw, hc_isubw, hc_imulw, hc_inegw, hc_idiv, hc_irem, hc_ineg, hc_b2, hc_b1, hc_i2l, hc_l2i, hc_ladd, hc_l2, hc_lsh, hc_lcmp, hc_if, hc_icmp, hc_jump, hc_getI, hc_getR, hc_putI, hc_putZ, hc_xald, hc_iast, hc_bast, hc_zast, hc_aald, hc_alen, hc_copy, hc_gets, hc_getsI, hc_sald, hc_ldcs, hc_sval, hc_scod, hc_slen, hc_sbald, hc_callI, hc_callL, hc_callV, hc_max, hc_min, hc_abs, hc_ireturn, hc_zreturn, hc_creturn, hc_lreturn, hc_return, hc_none, hc_switch, hv_sw, hv_get, hv_set, hv_set2, hv_mask, hv_fr, hv_noL, hv_pop, hv_pk, hv_isO, hv_isS, hv_any, hv_w, hv_cat, he_nil, he_i, he_r, he_l, hv_repl_0, hv_repl_s, if_true, if_false, and_true, true_and, and_self, Nat.zero_add, Nat.add_zero, Nat.reduceAdd, Nat.reduceLeDiff, List.length_cons, List.length_nil, Int.toNat_natCast, Bool.false_eq_true, reduceIte, Int.toNat_zero, Int.toNat_one, Int.reduceToNat, or_true, true_or, Int.reduceEq, Int.reduceLT, Int.reduceLE, Int.reduceNeg, Int.reduceAdd, Int.reduceSub, Int.reduceMul, Nat.reduceMul, Nat.reduceEqDiff, implies_true, false_implies, true_implies, not_true_eq_false, not_false_eq_true, ne_eq, or_false, false_or, and_false, false_and, or_self, Classical.not_not, Int.zero_add, Int.add_zero, lc_0, lc_22, lc_730, lc_902, lc_1074, lc_1447, lc_1824, lc_2081, lc_2135, lc_4258, lc_5723, lr_0, lt_14, ll_14, lr_2, lr_4, lr_5, lr_6, lr_7, lr_8, lt_1820, ll_1820, lr_9, lt_1822, ll_1822, lr_10, lr_11, lr_12, lr_13, lr_22, lt_30, ll_30, lr_1824, lt_1825, ll_1825, lr_2081, lt_2086, ll_2086, lr_2082, lt_2102, ll_2102, lr_2083, lt_2118, ll_2118, lr_2135, lt_2137, ll_2137, lr_4263, lt_4265, ll_4265, lr_5725, lt_5755, ll_5755, lr_5726, lt_5763, ll_5763, lr_5727, lt_5771, ll_5771, lr_5728, lt_6091, ll_6091, lr_5729, lt_6227, ll_6227, lr_5731, lt_6363, ll_6363, lr_5732, lt_6733, ll_6733, lr_5743, lt_7433, ll_7433, lr_5744, lt_7435, ll_7435, lr_5745, lt_7805, ll_7805, lr_5746, lt_7809, ll_7809, lr_5747, lt_8065, ll_8065, lr_5748, lt_8165, ll_8165, lr_5750, lt_8265, ll_8265, lr_5751, lt_8267, ll_8267, lr_5752, lt_8539, ll_8539, lr_5753, lt_9279, ll_9279, lr_731, lt_733, ll_733, lr_732, lt_899, ll_899, lr_903, lt_905, ll_905, lr_904, lt_1071, ll_1071, lr_1074, lt_1086, ll_1086, lr_1082, lt_1088, ll_1088, lr_1088, lt_1090, ll_1090, lr_1089, lt_1098, ll_1098, lr_1083, lt_1106, ll_1106, lr_1106, lt_1108, ll_1108, lr_1107, lt_1116, ll_1116, lr_1084, lt_1124, ll_1124, lr_1124, lt_1126, ll_1126, lr_1125, lt_1134, ll_1134, lr_1085, lt_1142, ll_1142, lr_1142, lt_1147, ll_1147, lr_1143, lt_1207, ll_1207, lr_1144, lt_1267, ll_1267, lr_1145, lt_1327, ll_1327, lr_1146, lt_1387, ll_1387, lr_1447, lt_1459, ll_1459, lr_1455, lt_1461, ll_1461, lr_1461, lt_1463, ll_1463, lr_1462, lt_1471, ll_1471, lr_1456, lt_1479, ll_1479, lr_1479, lt_1481, ll_1481, lr_1480, lt_1489, ll_1489, lr_1457, lt_1497, ll_1497, lr_1497, lt_1499, ll_1499, lr_1498, lt_1507, ll_1507, lr_1458, lt_1515, ll_1515, lr_1515, lt_1520, ll_1520, lr_1516, lt_1580, ll_1580, lr_1517, lt_1640, ll_1640, lr_1518, lt_1700, ll_1700, lr_1519, lt_1760, ll_1760]
  refine lp_m (fun j : Nat => k - j) (G := fun j => At 5 [some (Vr 1824), some (Vr (735 + 82 * sd)), some (Vi k), some (Vi (pth (Wt x sd c) (fun u => y (1825 + u)) c j : Nat)), some (Vi j)] [] y) (P := fun j => j ≤ k) ?_ 0 (Nat.zero_le _)
  intro j hj ih
  have hp := pth_b h2 hW hF j (by omega)
  have hl := pth_lt h2 hW hF (show j < c by omega)
  refine h5' _ _ _ ?_
  simp only [hb_X4_pullerAt_28, hb_X4_pullerAt_11, hb_X4_pullerAt_5, hb_X4_pullerAt_0, hc_iconst, hc_lconst, hc_iload, hc_lload, hc_aload, hc_istore, hc_astore, hc_lstore, hc_iinc, hc_dup, hc_dup2, hc_pop, hc_iadd, hc_isub, hc_imul, hc_iaddw, hc_isubw, hc_imulw, hc_inegw, hc_idiv, hc_irem, hc_ineg, hc_b2, hc_b1, hc_i2l, hc_l2i, hc_ladd, hc_l2, hc_lsh, hc_lcmp, hc_if, hc_icmp, hc_jump, hc_getI, hc_getR, hc_putI, hc_putZ, hc_xald, hc_iast, hc_bast, hc_zast, hc_aald, hc_alen, hc_copy, hc_gets, hc_getsI, hc_sald, hc_ldcs, hc_sval, hc_scod, hc_slen, hc_sbald, hc_callI, hc_callL, hc_callV, hc_max, hc_min, hc_abs, hc_ireturn, hc_zreturn, hc_creturn, hc_lreturn, hc_return, hc_none, hc_switch, hv_sw, hv_get, hv_set, hv_set2, hv_mask, hv_fr, hv_noL, hv_pop, hv_pk, hv_isO, hv_isS, hv_any, hv_w, hv_cat, he_nil, he_i, he_r, he_l, hv_repl_0, hv_repl_s, if_true, if_false, and_true, true_and, and_self, Nat.zero_add, Nat.add_zero, Nat.reduceAdd, Nat.reduceLeDiff, List.length_cons, List.length_nil, Int.toNat_natCast, Bool.false_eq_true, reduceIte, Int.toNat_zero, Int.toNat_one, Int.reduceToNat, or_true, true_or, Int.reduceEq, Int.reduceLT, Int.reduceLE, Int.reduceNeg, Int.reduceAdd, Int.reduceSub, Int.reduceMul, Nat.reduceMul, Nat.reduceEqDiff, implies_true, false_implies, true_implies, not_true_eq_false, not_false_eq_true, ne_eq, or_false, false_or, and_false, false_and, or_self, Classical.not_not, Int.zero_add, Int.add_zero, lc_0, lc_22, lc_730, lc_902, lc_1074, lc_1447, lc_1824, lc_2081, lc_2135, lc_4258, lc_5723, lr_0, lt_14, ll_14, lr_2, lr_4, lr_5, lr_6, lr_7, lr_8, lt_1820, ll_1820, lr_9, lt_1822, ll_1822, lr_10, lr_11, lr_12, lr_13, lr_22, lt_30, ll_30, lr_1824, lt_1825, ll_1825, lr_2081, lt_2086, ll_2086, lr_2082, lt_2102, ll_2102, lr_2083, lt_2118, ll_2118, lr_2135, lt_2137, ll_2137, lr_4263, lt_4265, ll_4265, lr_5725, lt_5755, ll_5755, lr_5726, lt_5763, ll_5763, lr_5727, lt_5771, ll_5771, lr_5728, lt_6091, ll_6091, lr_5729, lt_6227, ll_6227, lr_5731, lt_6363, ll_6363, lr_5732, lt_6733, ll_6733, lr_5743, lt_7433, ll_7433, lr_5744, lt_7435, ll_7435, lr_5745, lt_7805, ll_7805, lr_5746, lt_7809, ll_7809, lr_5747, lt_8065, ll_8065, lr_5748, lt_8165, ll_8165, lr_5750, lt_8265, ll_8265, lr_5751, lt_8267, ll_8267, lr_5752, lt_8539, ll_8539, lr_5753, lt_9279, ll_9279, lr_731, lt_733, ll_733, lr_732, lt_899, ll_899, lr_903, lt_905, ll_905, lr_904, lt_1071, ll_1071, lr_1074, lt_1086, ll_1086, lr_1082, lt_1088, ll_1088, lr_1088, lt_1090, ll_1090, lr_1089, lt_1098, ll_1098, lr_1083, lt_1106, ll_1106, lr_1106, lt_1108, ll_1108, lr_1107, lt_1116, ll_1116, lr_1084, lt_1124, ll_1124, lr_1124, lt_1126, ll_1126, lr_1125, lt_1134, ll_1134, lr_1085, lt_1142, ll_1142, lr_1142, lt_1147, ll_1147, lr_1143, lt_1207, ll_1207, lr_1144, lt_1267, ll_1267, lr_1145, lt_1327, ll_1327, lr_1146, lt_1387, ll_1387, lr_1447, lt_1459, ll_1459, lr_1455, lt_1461, ll_1461, lr_1461, lt_1463, ll_1463, lr_1462, lt_1471, ll_1471, lr_1456, lt_1479, ll_1479, lr_1479, lt_1481, ll_1481, lr_1480, lt_1489, ll_1489, lr_1457, lt_1497, ll_1497, lr_1497, lt_1499, ll_1499, lr_1498, lt_1507, ll_1507, lr_1458, lt_1515, ll_1515, lr_1515, lt_1520, ll_1520, lr_1516, lt_1580, ll_1580, lr_1517, lt_1640, ll_1640, lr_1518, lt_1700, ll_1700, lr_1519, lt_1760, ll_1760]
  refine ⟨fun g => ?_, fun g => ?_⟩
  · have : j = k := by omega
    subst this
    exact sp_bestNext l hS hf hp.1 (fun u _ u2 => hTb u u2) h
  · refine sp_bestNext l hS hf hp.1 (fun u _ u2 => hTb u u2) ?_
    obtain ⟨b, b1, b2, b3, -, -⟩ := okF_next h2 hW hF hl
    have ih' := ih (j + 1) (by omega) (by show k - (j + 1) < k - j; omega)
    have e : pth (Wt x sd c) (fun u => y (1825 + u)) c (j + 1) = pth (Wt x sd c) (fun u => y (1825 + u)) c j + 2 ^ b := by
      show pth _ _ c j + 2 ^ (mxp _ _ (pth _ _ c j) c).toNat = _
      rw [b1, Int.toNat_natCast]
    rw [e] at ih'
    rw [b1, (b_add _ (by omega) b (by omega) b3).1]
    exact ⟨⟨by omega, by omega⟩, ih'⟩
theorem sp_worthAt (l : Launch) {x y : hm} {sd c : Nat} (hS : okS x sd c) (hcc : x (6091 + sd) = c) (hf : ∀ a, 6091 ≤ a → a < 6227 → y a = x a) {n p : Nat} (hn : n ≤ 8) (hp : p < c) {Q : Int → hm → Prop} (h : Q (Wt x sd c n p) y) : hm_I l m_X10_worthAt 2 [Vr 5723, Vi sd, Vi p, Vi n] y Q := by
  have hW := Wt_b hS n p hn hp
  obtain ⟨h1, h2, h3, h4, h5⟩ := hS
  have t0 := h5 p hp
  have ec : y (6091 + sd) = c := by rw [hf _ (by omega) (by omega)]; exact hcc
  have e0 : y (6091 + (8 + 40 * sd + 5 * p + 0)) = tw x sd p 0 := hf _ (by omega) (by omega)
  have e2 : y (6091 + (8 + 40 * sd + 5 * p + 2)) = tw x sd p 2 := hf _ (by omega) (by omega)
  unfold Wt at h hW
  refine hr_X10_worthAt l (Nat.le_of_ble_eq_true rfl) ?_
  simp only [hb_X10_worthAt_43, hb_X10_worthAt_42, hb_X10_worthAt_37, hb_X10_worthAt_14, hb_X10_worthAt_11, hb_X10_worthAt_5, hb_X10_worthAt_0, hc_iconst, hc_lconst, hc_iload, hc_lload, hc_aload, hc_istore, hc_astore, hc_lstore, hc_iinc, hc_dup, hc_dup2, hc_pop, hc_iadd, hc_isub, hc_imul, hc_iaddw, hc_isubw, hc_imulw, hc_inegw, hc_idiv, hc_irem, hc_ineg, hc_b2, hc_b1, hc_i2l, hc_l2i, hc_ladd, hc_l2, hc_lsh, hc_lcmp, hc_if, hc_icmp, hc_jump, hc_getI, hc_getR, hc_putI, hc_putZ, hc_xald, hc_iast, hc_bast, hc_zast, hc_aald, hc_alen, hc_copy, hc_gets, hc_getsI, hc_sald, hc_ldcs, hc_sval, hc_scod, hc_slen, hc_sbald, hc_callI, hc_callL, hc_callV, hc_max, hc_min, hc_abs, hc_ireturn, hc_zreturn, hc_creturn, hc_lreturn, hc_return, hc_none, hc_switch, hv_sw, hv_get, hv_set, hv_set2, hv_mask, hv_fr, hv_noL, hv_pop, hv_pk, hv_isO, hv_isS, hv_any, hv_w, hv_cat, he_nil, he_i, he_r, he_l, hv_repl_0, hv_repl_s, if_true, if_false, and_true, true_and, and_self, Nat.zero_add, Nat.add_zero, Nat.reduceAdd, Nat.reduceLeDiff, List.length_cons, List.length_nil, Int.toNat_natCast, Bool.false_eq_true, reduceIte, Int.toNat_zero, Int.toNat_one, Int.reduceToNat, or_true, true_or, Int.reduceEq, Int.reduceLT, Int.reduceLE, Int.reduceNeg, Int.reduceAdd, Int.reduceSub, Int.reduceMul, Nat.reduceMul, Nat.reduceEqDiff, implies_true, false_implies, true_implies, not_true_eq_false, not_false_eq_true, ne_eq, or_false, false_or, and_false, false_and, or_self, Classical.not_not, Int.zero_add, Int.add_zero, lc_0, lc_22, lc_730, lc_902, lc_1074, lc_1447, lc_1824, lc_2081, lc_2135, lc_4258, lc_5723, lr_0, lt_14, ll_14, lr_2, lr_4, lr_5, lr_6, lr_7, lr_8, lt_1820, ll_1820, lr_9, lt_1822, ll_1822, lr_10, lr_11, lr_12, lr_13, lr_22, lt_30, ll_30, lr_1824, lt_1825, ll_1825, lr_2081, lt_2086, ll_2086, lr_2082, lt_2102, ll_2102, lr_2083, lt_2118, ll_2118, lr_2135, lt_2137, ll_2137, lr_4263, lt_4265, ll_4265, lr_5725, lt_5755, ll_5755, lr_5726, lt_5763, ll_5763, lr_5727, lt_5771, ll_5771, lr_5728, lt_6091, ll_6091, lr_5729, lt_6227, ll_6227, lr_5731, lt_6363, ll_6363, lr_5732, lt_6733, ll_6733, lr_5743, lt_7433, ll_7433, lr_5744, lt_7435, ll_7435, lr_5745, lt_7805, ll_7805, lr_5746, lt_7809, ll_7809, lr_5747, lt_8065, ll_8065, lr_5748, lt_8165, ll_8165, lr_5750, lt_8265, ll_8265, lr_5751, lt_8267, ll_8267, lr_5752, lt_8539, ll_8539, lr_5753, lt_9279, ll_9279, lr_731, lt_733, ll_733, lr_732, lt_899, ll_899, lr_903, lt_905, ll_905, lr_904, lt_1071, ll_1071, lr_1074, lt_1086, ll_1086, lr_1082, lt_1088, ll_1088, lr_1088, lt_1090, ll_1090, lr_1089, lt_1098, ll_1098, lr_1083, lt_1106, ll_1106, lr_1106, lt_1108, ll_1108, lr_1107, lt_1116, ll_1116, lr_1084, lt_1124, ll_1124, lr_1124, lt_1126, ll_1126, lr_1125, lt_1134, ll_1134, lr_1085, lt_1142, ll_1142, lr_1142, lt_1147, ll_1147, lr_1143, lt_1207, ll_1207, lr_1144, lt_1267, ll_1267, lr_1145, lt_1327, ll_1327, lr_1146, lt_1387, ll_1387, lr_1447, lt_1459, ll_1459, lr_1455, lt_1461, ll_1461, lr_1461, lt_1463, ll_1463, lr_1462, lt_1471, ll_1471, lr_1456, lt_1479, ll_1479, lr_1479, lt_1481, ll_1481, lr_1480, lt_1489, ll_1489, lr_1457, lt_1497, ll_1497, lr_1497, lt_1499, ll_1499, lr_1498, lt_1507, ll_1507, lr_1458, lt_1515, ll_1515, lr_1515, lt_1520, ll_1520, lr_1516, lt_1580, ll_1580, lr_1517, lt_1640, ll_1640, lr_1518, lt_1700, ll_1700, lr_1519, lt_1760, ll_1760]
  rw [ec]
  have m2 : tw x sd p 0 * (n : Int) ≤ 150 * 8 := Int.mul_le_mul (by omega) (by omega) (by omega) (by omega)
  have m4 : 0 ≤ tw x sd p 0 * (n : Int) := Int.mul_nonneg (by omega) (by omega)
  have key : ∀ z : Int, 88 ≤ z → z ≤ 110 → 0 ≤ tw x sd p 2 * z ∧ tw x sd p 2 * z ≤ 44000 := fun z z1 z2 => ⟨Int.mul_nonneg (by omega) (by omega), by have := Int.mul_le_mul (show tw x sd p 2 ≤ 400 by omega) z2 (by omega) (by omega); omega⟩
  have tail : ∀ E : Int, E = (100 - 3 * (if 4 ≤ n then (n : Int) - 4 else 4 - n) + if (n : Int) = (c : Int) - 1 then 10 else 0) → hm_I l m_X10_of 1 [Vr 5723, Vi sd, Vi p, Vi 2] y (fun r x' => hv_I (r * E) ∧ hm_I l m_X10_of 1 [Vr 5723, Vi sd, Vi p, Vi 0] x' (fun r_1 x' => hv_I (r_1 * n) ∧ hv_I (r * E + r_1 * n) ∧ Q (r * E + r_1 * n) x')) := by
    intro E hE
    rw [← hE] at h
    have hEb : 88 ≤ E ∧ E ≤ 110 := by rw [hE]; (repeat' split) <;> omega
    have m1 := key E hEb.1 hEb.2
    refine sp_of (k := 2) l h1 (by omega) (by decide) ?_
    rw [e2]
    refine ⟨⟨by omega, by omega⟩, ?_⟩
    refine sp_of (k := 0) l h1 (by omega) (by decide) ?_
    rw [e0]
    exact ⟨⟨by omega, by omega⟩, ⟨by omega, by omega⟩, h⟩
  refine ⟨fun c1 => ⟨⟨by omega, by omega⟩, ⟨by omega, by omega⟩, ⟨by omega, by omega⟩, ⟨by omega, by omega⟩, ⟨by omega, by omega⟩, ⟨by omega, by omega⟩, fun c2 => ⟨⟨by omega, by omega⟩, ?_⟩, fun c2 => ⟨⟨by omega, by omega⟩, ?_⟩⟩, fun c1 => ⟨⟨by omega, by omega⟩, ⟨by omega, by omega⟩, ⟨by omega, by omega⟩, ⟨by omega, by omega⟩, ⟨by omega, by omega⟩, ⟨by omega, by omega⟩, fun c2 => ⟨⟨by omega, by omega⟩, ?_⟩, fun c2 => ⟨⟨by omega, by omega⟩, ?_⟩⟩⟩
  · exact tail _ (by rw [if_pos (by omega), if_neg c2]; omega)
  · exact tail _ (by rw [if_pos (by omega), if_pos c2])
  · exact tail _ (by rw [if_neg (by omega), if_neg c2]; omega)
  · exact tail _ (by rw [if_neg (by omega), if_pos c2])
