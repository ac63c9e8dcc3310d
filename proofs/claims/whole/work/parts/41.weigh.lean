/-! stands, the class -/
def okS (x : hm) (sd c : Nat) : Prop := sd < 2 ∧ c ≤ 8 ∧ x (735 + 82 * sd) = c ∧ (∀ p k : Nat, p < c → k < 5 → x (735 + 82 * sd + 12 + 5 * p + k) = tw x sd p k) ∧ ∀ p, p < c → (0 ≤ tw x sd p 0 ∧ tw x sd p 0 ≤ 150) ∧ 1 ≤ tw x sd p 2 ∧ tw x sd p 2 ≤ 400
theorem Wt_b {x : hm} {sd c : Nat} (h : okS x sd c) : okW (Wt x sd c) c := by
  intro n p hn hp
  obtain ⟨-, -, -, -, h5⟩ := h
  have := h5 p hp
  unfold Wt
  have e1 : 88 ≤ (100 - 3 * (if 4 ≤ n then (n : Int) - 4 else 4 - n) + if (n : Int) = (c : Int) - 1 then 10 else 0) ∧ (100 - 3 * (if 4 ≤ n then (n : Int) - 4 else 4 - n) + if (n : Int) = (c : Int) - 1 then 10 else 0) ≤ 110 := by
    (repeat' split) <;> omega
  generalize (100 - 3 * (if 4 ≤ n then (n : Int) - 4 else 4 - n) + if (n : Int) = (c : Int) - 1 then 10 else 0) = z at e1 ⊢
  have m1 : tw x sd p 2 * z ≤ 400 * 110 := Int.mul_le_mul (by omega) (by omega) (by omega) (by omega)
  have m2 : tw x sd p 0 * (n : Int) ≤ 150 * 8 := Int.mul_le_mul (by omega) (by omega) (by omega) (by omega)
  have m3 : 0 ≤ tw x sd p 2 * z := Int.mul_nonneg (by omega) (by omega)
  have m4 : 0 ≤ tw x sd p 0 * (n : Int) := Int.mul_nonneg (by omega) (by omega)
  omega
/-- what is outside the class's table -/
def fP (x y : hm) : Prop := ∀ a, ¬ (1825 ≤ a ∧ a < 2081) → y a = x a
theorem sp_worthWith (l : Launch) {x y : hm} {sd c : Nat} (hS : okS x sd c) (hf : fP x y) {s : Nat} (hs2 : s < 2 ^ c) {p : Nat} (hp : p < c) (hp0 : hs s p = 0) (hT : 0 ≤ y (1825 + (s + 2 ^ p)) ∧ y (1825 + (s + 2 ^ p)) ≤ 60000 * 256) {Q : Int → hm → Prop} (h : Q (vl (Wt x sd c) (fun u => y (1825 + u)) s p) y) : hm_I l m_X4_worthWith 2 [Vr 1824, Vr (735 + 82 * sd), Vi s, Vi p] y Q := by
  have hW := Wt_b hS (pc s) p (pc_b s) hp
  obtain ⟨h1, h2, h3, h4, h5⟩ := hS
  have hd := is_side730 h1
  have hpow := pow_b h2
  have hpc := pc_b s
  have t0 := h5 p hp
  have r0 := h4 p 0 hp (by omega)
  have r2 := h4 p 2 hp (by omega)
  have hba := b_add s (by omega) p (by omega) hp0
  unfold vl Wt at h
  unfold Wt at hW
  refine hr_X4_worthWith l (Nat.le_of_ble_eq_true rfl) ?_
  simp only [hb_X4_worthWith_41, hb_X4_worthWith_40, hb_X4_worthWith_35, hb_X4_worthWith_6, hb_X4_worthWith_4, hb_X4_worthWith_0, hc_iconst, hc_lconst, hc_iload, hc_lload, hc_aload, hc_istore, hc_astore, hc_lstore, hc_iinc, hc_dup, hc_dup2, hc_pop, hc_iadd, hc_isub, hc_imul, hc_iaddw, hc_isubw, hc_imulw, hc_inegw, hc_idiv, hc_irem, hc_ineg, hc_b2, hc_b1, hc_i2l, hc_l2i, hc_ladd, hc_l2, hc_lsh, hc_lcmp, hc_if, hc_icmp, hc_jump, hc_getI, hc_getR, hc_putI, hc_putZ, hc_xald, hc_iast, hc_bast, hc_zast, hc_aald, hc_alen, hc_copy, hc_gets, hc_getsI, hc_sald, hc_ldcs, hc_sval, hc_scod, hc_slen, hc_sbald, hc_callI, hc_callL, hc_callV, hc_max, hc_min, hc_abs, hc_ireturn, hc_zreturn, hc_creturn, hc_lreturn, hc_return, hc_none, hc_switch, hv_sw, hv_get, hv_set, hv_set2, hv_mask, hv_fr, hv_noL, hv_pop, hv_pk, hv_isO, hv_isS, hv_any, hv_w, hv_cat, he_nil, he_i, he_r, he_l, hv_repl_0, hv_repl_s, if_true, if_false, and_true, true_and, and_self, Nat.zero_add, Nat.add_zero, Nat.reduceAdd, Nat.reduceLeDiff, List.length_cons, List.length_nil, Int.toNat_natCast, Bool.false_eq_true, reduceIte, Int.toNat_zero, Int.toNat_one, Int.reduceToNat, or_true, true_or, Int.reduceEq, Int.reduceLT, Int.reduceLE, Int.reduceNeg, Int.reduceAdd, Int.reduceSub, Int.reduceMul, Nat.reduceMul, Nat.reduceEqDiff, implies_true, false_implies, true_implies, not_true_eq_false, not_false_eq_true, ne_eq, or_false, false_or, and_false, false_and, or_self, Classical.not_not, Int.zero_add, Int.add_zero, lc_0, lc_22, lc_730, lc_902, lc_1074, lc_1447, lc_1824, lc_2081, lc_2135, lc_4258, lc_5723, lr_0, lt_14, ll_14, lr_2, lr_4, lr_5, lr_6, lr_7, lr_8, lt_1820, ll_1820, lr_9, lt_1822, ll_1822, lr_10, lr_11, lr_12, lr_13, lr_22, lt_30, ll_30, lr_1824, lt_1825, ll_1825, lr_2081, lt_2086, ll_2086, lr_2082, lt_2102, ll_2102, lr_2083, lt_2118, ll_2118, lr_2135, lt_2137, ll_2137, lr_4263, lt_4265, ll_4265, lr_5725, lt_5755, ll_5755, lr_5726, lt_5763, ll_5763, lr_5727, lt_5771, ll_5771, lr_5728, lt_6091, ll_6091, lr_5729, lt_6227, ll_6227, lr_5731, lt_6363, ll_6363, lr_5732, lt_6733, ll_6733, lr_5743, lt_7433, ll_7433, lr_5744, lt_7435, ll_7435, lr_5745, lt_7805, ll_7805, lr_5746, lt_7809, ll_7809, lr_5747, lt_8065, ll_8065, lr_5748, lt_8165, ll_8165, lr_5750, lt_8265, ll_8265, lr_5751, lt_8267, ll_8267, lr_5752, lt_8539, ll_8539, lr_5753, lt_9279, ll_9279, lr_731, lt_733, ll_733, lr_732, lt_899, ll_899, lr_903, lt_905, ll_905, lr_904, lt_1071, ll_1071, lr_1074, lt_1086, ll_1086, lr_1082, lt_1088, ll_1088, lr_1088, lt_1090, ll_1090, lr_1089, lt_1098, ll_1098, lr_1083, lt_1106, ll_1106, lr_1106, lt_1108, ll_1108, lr_1107, lt_1116, ll_1116, lr_1084, lt_1124, ll_1124, lr_1124, lt_1126, ll_1126, lr_1125, lt_1134, ll_1134, lr_1085, lt_1142, ll_1142, lr_1142, lt_1147, ll_1147, lr_1143, lt_1207, ll_1207, lr_1144, lt_1267, ll_1267, lr_1145, lt_1327, ll_1327, lr_1146, lt_1387, ll_1387, lr_1447, lt_1459, ll_1459, lr_1455, lt_1461, ll_1461, lr_1461, lt_1463, ll_1463, lr_1462, lt_1471, ll_1471, lr_1456, lt_1479, ll_1479, lr_1479, lt_1481, ll_1481, lr_1480, lt_1489, ll_1489, lr_1457, lt_1497, ll_1497, lr_1497, lt_1499, ll_1499, lr_1498, lt_1507, ll_1507, lr_1458, lt_1515, ll_1515, lr_1515, lt_1520, ll_1520, lr_1516, lt_1580, ll_1580, lr_1517, lt_1640, ll_1640, lr_1518, lt_1700, ll_1700, lr_1519, lt_1760, ll_1760]
  refine ⟨fun _ => ?_, fun c => absurd c (by omega)⟩
  refine sp_bitCount l (by omega) ?_
  have ec : y (735 + 82 * sd) = c := by rw [hf _ (by omega)]; exact h3
  have e0 : y (735 + 82 * sd + 12 + 5 * p + 0) = tw x sd p 0 := by rw [hf _ (by omega)]; exact r0
  have e2 : y (735 + 82 * sd + 12 + 5 * p + 2) = tw x sd p 2 := by rw [hf _ (by omega)]; exact r2
  have ea : (((pc s : Nat) : Int) - 4).natAbs = (if 4 ≤ pc s then ((pc s : Nat) : Int) - 4 else 4 - ((pc s : Nat) : Int)) := by split <;> omega
  simp only [sd_cls hd, sd_rf1 hd, sd_t4 hd, sd_l4 hd, sd_r4 hd (show p < 8 by omega), sd_tt hd (show p < 8 by omega), sd_tl hd (show p < 8 by omega), true_and, ec, ea, hba.1, Int.toNat_natCast]
  have hu256 := hba.2.1
  have e0' : y (735 + 82 * sd + 12 + 5 * p) = tw x sd p 0 := e0
  generalize s + 2 ^ p = u at hT h hu256 ⊢
  rw [e0', e2]
  have hA : 88 ≤ (100 - 3 * if 4 ≤ pc s then ((pc s : Nat) : Int) - 4 else 4 - ((pc s : Nat) : Int)) ∧ (100 - 3 * if 4 ≤ pc s then ((pc s : Nat) : Int) - 4 else 4 - ((pc s : Nat) : Int)) ≤ 100 := by split <;> omega
  have hD : 0 ≤ (if 4 ≤ pc s then ((pc s : Nat) : Int) - 4 else 4 - ((pc s : Nat) : Int)) ∧ (if 4 ≤ pc s then ((pc s : Nat) : Int) - 4 else 4 - ((pc s : Nat) : Int)) ≤ 4 := by split <;> omega
  generalize (if 4 ≤ pc s then ((pc s : Nat) : Int) - 4 else 4 - ((pc s : Nat) : Int)) = D at hA hD h hW ⊢
  have m2 : tw x sd p 0 * ((pc s : Nat) : Int) ≤ 150 * 8 := Int.mul_le_mul (by omega) (by omega) (by omega) (by omega)
  have m4 : 0 ≤ tw x sd p 0 * ((pc s : Nat) : Int) := Int.mul_nonneg (by omega) (by omega)
  have key : ∀ z : Int, 88 ≤ z → z ≤ 110 → 0 ≤ tw x sd p 2 * z ∧ tw x sd p 2 * z ≤ 44000 := fun z z1 z2 => ⟨Int.mul_nonneg (by omega) (by omega), by have := Int.mul_le_mul (show tw x sd p 2 ≤ 400 by omega) z2 (by omega) (by omega); omega⟩
  generalize tw x sd p 0 * ((pc s : Nat) : Int) = M2 at m2 m4 h hW ⊢
  refine ⟨⟨by omega, by omega⟩, ⟨by omega, by omega⟩, ⟨by omega, by omega⟩, ⟨by omega, by omega⟩, ⟨by omega, by omega⟩, fun c1 => ?_, fun c1 => ?_⟩
  · rw [if_neg c1, Int.add_zero] at h
    have m1 := key (100 - 3 * D) (by omega) (by omega)
    generalize tw x sd p 2 * (100 - 3 * D) = M1 at m1 h ⊢
    (repeat' (with_reducible refine And.intro ?_ ?_)) <;> first | exact h | exact trivial | omega | exact ⟨by omega, by omega⟩
  · rw [if_pos c1] at h
    have m1 := key (100 - 3 * D + 10) (by omega) (by omega)
    generalize tw x sd p 2 * (100 - 3 * D + 10) = M1 at m1 h ⊢
    (repeat' (with_reducible refine And.intro ?_ ?_)) <;> first | exact h | exact trivial | omega | exact ⟨by omega, by omega⟩
theorem sp_worthNone (l : Launch) {y : hm} {sd : Nat} {s : Int} {Q : Int → hm → Prop} (h : Q 0 y) : hm_I l m_X4_worthWith 2 [Vr 1824, Vr (735 + 82 * sd), Vi s, Vi (-1)] y Q := by
  refine hr_X4_worthWith l (Nat.le_of_ble_eq_true rfl) ?_
  simp only [hb_X4_worthWith_41, hb_X4_worthWith_40, hb_X4_worthWith_35, hb_X4_worthWith_6, hb_X4_worthWith_4, hb_X4_worthWith_0, hc_iconst, hc_lconst, hc_iload, hc_lload, hc_aload, hc_istore, hc_astore, hc_lstore, hc_iinc, hc_dup, hc_dup2, hc_pop, hc_iadd, hc_isub, hc_imul, hc_iaddw, hc_isubw, hc_imulw, hc_inegw, hc_idiv, hc_irem, hc_ineg, hc_b2, hc_b1, hc_i2l, hc_l2i, hc_ladd, hc_l2, hc_lsh, hc_lcmp, hc_if, hc_icmp, hc_jump, hc_getI, hc_getR, hc_putI, hc_putZ, hc_xald, hc_iast, hc_bast, hc_zast, hc_aald, hc_alen, hc_copy, hc_gets, hc_getsI, hc_sald, hc_ldcs, hc_sval, hc_scod, hc_slen, hc_sbald, hc_callI, hc_callL, hc_callV, hc_max, hc_min, hc_abs, hc_ireturn, hc_zreturn, hc_creturn, hc_lreturn, hc_return, hc_none, hc_switch, hv_sw, hv_get, hv_set, hv_set2, hv_mask, hv_fr, hv_noL, hv_pop, hv_pk, hv_isO, hv_isS, hv_any, hv_w, hv_cat, he_nil, he_i, he_r, he_l, hv_repl_0, hv_repl_s, if_true, if_false, and_true, true_and, and_self, Nat.zero_add, Nat.add_zero, Nat.reduceAdd, Nat.reduceLeDiff, List.length_cons, List.length_nil, Int.toNat_natCast, Bool.false_eq_true, reduceIte, Int.toNat_zero, Int.toNat_one, Int.reduceToNat, or_true, true_or, Int.reduceEq, Int.reduceLT, Int.reduceLE, Int.reduceNeg, Int.reduceAdd, Int.reduceSub, Int.reduceMul, Nat.reduceMul, Nat.reduceEqDiff, implies_true, false_implies, true_implies, not_true_eq_false, not_false_eq_true, ne_eq, or_false, false_or, and_false, false_and, or_self, Classical.not_not, Int.zero_add, Int.add_zero, lc_0, lc_22, lc_730, lc_902, lc_1074, lc_1447, lc_1824, lc_2081, lc_2135, lc_4258, lc_5723, lr_0, lt_14, ll_14, lr_2, lr_4, lr_5, lr_6, lr_7, lr_8, lt_1820, ll_1820, lr_9, lt_1822, ll_1822, lr_10, lr_11, lr_12, lr_13, lr_22, lt_30, ll_30, lr_1824, lt_1825, ll_1825, lr_2081, lt_2086, ll_2086, lr_2082, lt_2102, ll_2102, lr_2083, lt_2118, ll_2118, lr_2135, lt_2137, ll_2137, lr_4263, lt_4265, ll_4265, lr_5725, lt_5755, ll_5755, lr_5726, lt_5763, ll_5763, lr_5727, lt_5771, ll_5771, lr_5728, lt_6091, ll_6091, lr_5729, lt_6227, ll_6227, lr_5731, lt_6363, ll_6363, lr_5732, lt_6733, ll_6733, lr_5743, lt_7433, ll_7433, lr_5744, lt_7435, ll_7435, lr_5745, lt_7805, ll_7805, lr_5746, lt_7809, ll_7809, lr_5747, lt_8065, ll_8065, lr_5748, lt_8165, ll_8165, lr_5750, lt_8265, ll_8265, lr_5751, lt_8267, ll_8267, lr_5752, lt_8539, ll_8539, lr_5753, lt_9279, ll_9279, lr_731, lt_733, ll_733, lr_732, lt_899, ll_899, lr_903, lt_905, ll_905, lr_904, lt_1071, ll_1071, lr_1074, lt_1086, ll_1086, lr_1082, lt_1088, ll_1088, lr_1088, lt_1090, ll_1090, lr_1089, lt_1098, ll_1098, lr_1083, lt_1106, ll_1106, lr_1106, lt_1108, ll_1108, lr_1107, lt_1116, ll_1116, lr_1084, lt_1124, ll_1124, lr_1124, lt_1126, ll_1126, lr_1125, lt_1134, ll_1134, lr_1085, lt_1142, ll_1142, lr_1142, lt_1147, ll_1147, lr_1143, lt_1207, ll_1207, lr_1144, lt_1267, ll_1267, lr_1145, lt_1327, ll_1327, lr_1146, lt_1387, ll_1387, lr_1447, lt_1459, ll_1459, lr_1455, lt_1461, ll_1461, lr_1461, lt_1463, ll_1463, lr_1462, lt_1471, ll_1471, lr_1456, lt_1479, ll_1479, lr_1479, lt_1481, ll_1481, lr_1480, lt_1489, ll_1489, lr_1457, lt_1497, ll_1497, lr_1497, lt_1499, ll_1499, lr_1498, lt_1507, ll_1507, lr_1458, lt_1515, ll_1515, lr_1515, lt_1520, ll_1520, lr_1516, lt_1580, ll_1580, lr_1517, lt_1640, ll_1640, lr_1518, lt_1700, ll_1700, lr_1519, lt_1760, ll_1760]
  exact h
theorem sp_bestNext (l : Launch) {x y : hm} {sd c : Nat} (hS : okS x sd c) (hf : fP x y) {s : Nat} (hs2 : s < 2 ^ c) (hT : ∀ u, s < u → u < 2 ^ c → 0 ≤ y (1825 + u) ∧ y (1825 + u) ≤ 60000 * 256) {Q : Int → hm → Prop} (h : Q (mxp (Wt x sd c) (fun u => y (1825 + u)) s c) y) : hm_I l m_X4_bestNext 3 [Vr 1824, Vr (735 + 82 * sd), Vi s] y Q := by
  have hS' := hS
  obtain ⟨h1, h2, h3, h4, h5⟩ := hS'
  have hd := is_side730 h1
  have hpow := pow_b h2
  have ec : y (735 + 82 * sd) = c := by rw [hf _ (by omega)]; exact h3
  have hTT : ∀ p, p < c → hs s p = 0 → 0 ≤ y (1825 + (s + 2 ^ p)) ∧ y (1825 + (s + 2 ^ p)) ≤ 60000 * 256 := fun p hp hp0 => by
    have hpp : 1 ≤ 2 ^ p := Nat.one_le_two_pow
    exact hT (s + 2 ^ p) (by omega) (b_in c h2 s hs2 p hp hp0)
  have v0 : ∀ p, p < c → hs s p = 0 → 0 ≤ vl (Wt x sd c) (fun u => y (1825 + u)) s p := fun p hp hp0 => by
    have := hTT p hp hp0
    have hw := Wt_b hS (pc s) p (pc_b s) hp
    show 0 ≤ Wt x sd c (pc s) p + y (1825 + (s + 2 ^ p))
    omega
  refine hr_X4_bestNext l (Nat.le_of_ble_eq_true rfl) ?_
  intro At h5'
  simp only [hb_X4_bestNext_54, hb_X4_bestNext_48, hb_X4_bestNext_45, hb_X4_bestNext_27, hb_X4_bestNext_23, hb_X4_bestNext_14, hb_X4_bestNext_5, hb_X4_bestNext_0, hc_iconst, hc_lconst, hc_iload, hc_lload, hc_aload, hc_istore, hc_astore, hc_lstore, hc_iinc, hc_dup, hc_dup2, hc_pop, hc_iadd, hc_isub, hc_imul, hc_iaddw, hc_isubw, hc_imulw, hc_inegw, hc_idiv, hc_irem, hc_ineg, hc_b2, hc_b1, hc_i2l, hc_l2i, hc_ladd, hc_l2, hc_lsh, hc_lcmp, hc_if, hc_icmp, hc_jump, hc_getI, hc_getR, hc_putI, hc_putZ, hc_xald, hc_iast, hc_bast, hc_zast, hc_aald, hc_alen, hc_copy, hc_gets, hc_getsI, hc_sald, hc_ldcs, hc_sval, hc_scod, hc_slen, hc_sbald, hc_callI, hc_callL, hc_callV, hc_max, hc_min, hc_abs, hc_ireturn, hc_zreturn, hc_creturn, hc_lreturn, hc_return, hc_none, hc_switch, hv_sw, hv_get, hv_set, hv_set2, hv_mask, hv_fr, hv_noL, hv_pop, hv_pk, hv_isO, hv_isS, hv_any, hv_w, hv_cat, he_nil, he_i, he_r, he_l, hv_repl_0, hv_repl_s, if_true, if_false, and_true, true_and, and_self, Nat.zero_add, Nat.add_zero, Nat.reduceAdd, Nat.reduceLeDiff, List.length_cons, List.length_nil, Int.toNat_natCast, Bool.false_eq_true, reduceIte, Int.toNat_zero, Int.toNat_one, Int.reduceToNat, or_true, true_or, Int.reduceEq, Int.reduceLT, Int.reduceLE, Int.reduceNeg, Int.reduceAdd, Int.reduceSub, Int.reduceMul, Nat.reduceMul, Nat.reduceEqDiff, implies_true, false_implies, true_implies, not_true_eq_false, not_false_eq_true, ne_eq, or_false, false_or, and_false, false_and, or_self, Classical.not_not, Int.zero_add, Int.add_zero, lc_0, lc_22, lc_730, lc_902, lc_1074, lc_1447, lc_1824, lc_2081, lc_2135, lc_4258, lc_5723, lr_0, lt_14, ll_14, lr_2, lr_4, lr_5, lr_6, lr_7, lr_8, lt_1820, ll_1820, lr_9, lt_1822, ll_1822, lr_10, lr_11, lr_12, lr_13, lr_22, lt_30, ll_30, lr_1824, lt_1825, ll_1825, lr_2081, lt_2086, ll_2086, lr_2082, lt_2102, ll_2102, lr_2083, lt_2118, ll_2118, lr_2135, lt_2137, ll_2137, lr_4263, lt_4265, ll_4265, lr_5725, lt_5755, ll_5755, lr_5726, lt_5763, ll_5763, lr_5727, lt_5771, ll_5771, lr_5728, lt_6091, ll_6091, lr_5729, lt_6227, ll_6227, lr_5731, lt_6363, ll_6363, lr_5732, lt_6733, ll_6733, lr_5743, lt_7433, ll_7433, lr_5744, lt_7435, ll_7435, lr_5745, lt_7805, ll_7805, lr_5746, lt_7809, ll_7809, lr_5747, lt_8065, ll_8065, lr_5748, lt_8165, ll_8165, lr_5750, lt_8265, ll_8265, lr_5751, lt_8267, ll_8267, lr_5752, lt_8539, ll_8539, lr_5753, lt_9279, ll_9279, lr_731, lt_733, ll_733, lr_732, lt_899, ll_899, lr_903, lt_905, ll_905, lr_904, lt_1071, ll_1071, lr_1074, lt_1086, ll_1086, lr_1082, lt_1088, ll_1088, lr_1088, lt_1090, ll_1090, lr_1089, lt_1098, ll_1098, lr_1083, lt_1106, ll_1106, lr_1106, lt_1108, ll_1108, lr_1107, lt_1116, ll_1116, lr_1084, lt_1124, ll_1124, lr_1124, lt_1126, ll_1126, lr_1125, lt_1134, ll_1134, lr_1085, lt_1142, ll_1142, lr_1142, lt_1147, ll_1147, lr_1143, lt_1207, ll_1207, lr_1144, lt_1267, ll_1267, lr_1145, lt_1327, ll_1327, lr_1146, lt_1387, ll_1387, lr_1447, lt_1459, ll_1459, lr_1455, lt_1461, ll_1461, lr_1461, lt_1463, ll_1463, lr_1462, lt_1471, ll_1471, lr_1456, lt_1479, ll_1479, lr_1479, lt_1481, ll_1481, lr_1480, lt_1489, ll_1489, lr_1457, lt_1497, ll_1497, lr_1497, lt_1499, ll_1499, lr_1498, lt_1507, ll_1507, lr_1458, lt_1515, ll_1515, lr_1515, lt_1520, ll_1520, lr_1516, lt_1580, ll_1580, lr_1517, lt_1640, ll_1640, lr_1518, lt_1700, ll_1700, lr_1519, lt_1760, ll_1760]
  refine lp_m (fun p : Nat => c - p) (G := fun p => At 5 [some (Vr 1824), some (Vr (735 + 82 * sd)), some (Vi s), some (Vi (mxp (Wt x sd c) (fun u => y (1825 + u)) s p)), some (Vi p)] [] y) (P := fun p => p ≤ c) ?_ 0 (Nat.zero_le _)
  intro p hp ih
  refine h5' _ _ _ ?_
  simp only [hb_X4_bestNext_54, hb_X4_bestNext_48, hb_X4_bestNext_45, hb_X4_bestNext_27, hb_X4_bestNext_23, hb_X4_bestNext_14, hb_X4_bestNext_5, hb_X4_bestNext_0, hc_iconst, hc_lconst, hc_iload, hc_lload, hc_aload, hc_istore, hc_astore, hc_lstore, hc_iinc, hc_dup, hc_dup2, hc_pop, hc_iadd, hc_isub, hc_imul, hc_iaddw, hc_isubw, hc_imulw, hc_inegw, hc_idiv, hc_irem, hc_ineg, hc_b2, hc_b1, hc_i2l, hc_l2i, hc_ladd, hc_l2, hc_lsh, hc_lcmp, hc_if, hc_icmp, hc_jump, hc_getI, hc_getR, hc_putI, hc_putZ, hc_xald, hc_iast, hc_bast, hc_zast, hc_aald, hc_alen, hc_copy, hc_gets, hc_getsI, hc_sald, hc_ldcs, hc_sval, hc_scod, hc_slen, hc_sbald, hc_callI, hc_callL, hc_callV, hc_max, hc_min, hc_abs, hc_ireturn, hc_zreturn, hc_creturn, hc_lreturn, hc_return, hc_none, hc_switch, hv_sw, hv_get, hv_set, hv_set2, hv_mask, hv_fr, hv_noL, hv_pop, hv_pk, hv_isO, hv_isS, hv_any, hv_w, hv_cat, he_nil, he_i, he_r, he_l, hv_repl_0, hv_repl_s, if_true, if_false, and_true, true_and, and_self, Nat.zero_add, Nat.add_zero, Nat.reduceAdd, Nat.reduceLeDiff, List.length_cons, List.length_nil, Int.toNat_natCast, Bool.false_eq_true, reduceIte, Int.toNat_zero, Int.toNat_one, Int.reduceToNat, or_true, true_or, Int.reduceEq, Int.reduceLT, Int.reduceLE, Int.reduceNeg, Int.reduceAdd, Int.reduceSub, Int.reduceMul, Nat.reduceMul, Nat.reduceEqDiff, implies_true, false_implies, true_implies, not_true_eq_false, not_false_eq_true, ne_eq, or_false, false_or, and_false, false_and, or_self, Classical.not_not, Int.zero_add, Int.add_zero, lc_0, lc_22, lc_730, lc_902, lc_1074, lc_1447, lc_1824, lc_2081, lc_2135, lc_4258, lc_5723, lr_0, lt_14, ll_14, lr_2, lr_4, lr_5, lr_6, lr_7, lr_8, lt_1820, ll_1820, lr_9, lt_1822, ll_1822, lr_10, lr_11, lr_12, lr_13, lr_22, lt_30, ll_30, lr_1824, lt_1825, ll_1825, lr_2081, lt_2086, ll_2086, lr_2082, lt_2102, ll_2102, lr_2083, lt_2118, ll_2118, lr_2135, lt_2137, ll_2137, lr_4263, lt_4265, ll_4265, lr_5725, lt_5755, ll_5755, lr_5726, lt_5763, ll_5763, lr_5727, lt_5771, ll_5771, lr_5728, lt_6091, ll_6091, lr_5729, lt_6227, ll_6227, lr_5731, lt_6363, ll_6363, lr_5732, lt_6733, ll_6733, lr_5743, lt_7433, ll_7433, lr_5744, lt_7435, ll_7435, lr_5745, lt_7805, ll_7805, lr_5746, lt_7809, ll_7809, lr_5747, lt_8065, ll_8065, lr_5748, lt_8165, ll_8165, lr_5750, lt_8265, ll_8265, lr_5751, lt_8267, ll_8267, lr_5752, lt_8539, ll_8539, lr_5753, lt_9279, ll_9279, lr_731, lt_733, ll_733, lr_732, lt_899, ll_899, lr_903, lt_905, ll_905, lr_904, lt_1071, ll_1071, lr_1074, lt_1086, ll_1086, lr_1082, lt_1088, ll_1088, lr_1088, lt_1090, ll_1090, lr_1089, lt_1098, ll_1098, lr_1083, lt_1106, ll_1106, lr_1106, lt_1108, ll_1108, lr_1107, lt_1116, ll_1116, lr_1084, lt_1124, ll_1124, lr_1124, lt_1126, ll_1126, lr_1125, lt_1134, ll_1134, lr_1085, lt_1142, ll_1142, lr_1142, lt_1147, ll_1147, lr_1143, lt_1207, ll_1207, lr_1144, lt_1267, ll_1267, lr_1145, lt_1327, ll_1327, lr_1146, lt_1387, ll_1387, lr_1447, lt_1459, ll_1459, lr_1455, lt_1461, ll_1461, lr_1461, lt_1463, ll_1463, lr_1462, lt_1471, ll_1471, lr_1456, lt_1479, ll_1479, lr_1479, lt_1481, ll_1481, lr_1480, lt_1489, ll_1489, lr_1457, lt_1497, ll_1497, lr_1497, lt_1499, ll_1499, lr_1498, lt_1507, ll_1507, lr_1458, lt_1515, ll_1515, lr_1515, lt_1520, ll_1520, lr_1516, lt_1580, ll_1580, lr_1517, lt_1640, ll_1640, lr_1518, lt_1700, ll_1700, lr_1519, lt_1760, ll_1760]
  simp only [sd_cls hd, true_and, ec]
  refine ⟨fun g => ?_, fun g => ?_⟩
  · have : p = c := by omega
    subst this; exact h
  · have hpc : p < c := by omega
    have ih' := ih (p + 1) (by omega) (by show c - (p + 1) < c - p; omega)
    rw [mxp_s] at ih'
    rw [b_test s (by omega) p (by omega)]
    have hb := hs_b s p
    have ix := mx_at v0 p hp
    refine ⟨fun g2 => ⟨⟨by omega, by omega⟩, ?_⟩, fun g2 => ⟨fun g3 => ⟨⟨by omega, by omega⟩, ?_⟩, fun g3 => ?_⟩⟩
    · rw [if_pos (by omega)] at ih'; exact ih'
    · rw [if_neg (by omega)] at ih'
      have p0 : hs s p = 0 := by omega
      have := v0 p hpc p0
      rcases ix with ⟨a1, a2, -⟩ | ⟨b, a1, -, -, -, -⟩
      · rw [if_neg (by omega)] at ih'; exact ih'
      · omega
    · have p0 : hs s p = 0 := by omega
      rw [if_neg (by omega)] at ih'
      rcases ix with ⟨a1, -, -⟩ | ⟨b, a1, a2, a3, a4, -⟩
      · omega
      · rw [a1, a4] at ih'
        rw [a1]
        refine sp_worthWith l hS hf hs2 hpc p0 (hTT p hpc p0) ?_
        refine sp_worthWith l hS hf hs2 (by omega) a3 (hTT b (by omega) a3) ?_
        refine ⟨fun g4 => ⟨⟨by omega, by omega⟩, ?_⟩, fun g4 => ⟨⟨by omega, by omega⟩, ?_⟩⟩
        · rw [if_pos g4] at ih'; exact ih'
        · rw [if_neg g4] at ih'; exact ih'
