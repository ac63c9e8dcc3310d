/-! a tenth: one side, the class -/
def pD (z : hm) (o : Int) (s p : Nat) : Int := ordz z o s (tw z s p 4).toNat
def pV (z : hm) (s p : Nat) : Int := z (6363 + (10 + 8 * s + p))
def pK (z : hm) (o : Int) (s p : Nat) : Int := f_did (pV z s p) (pD z o s p)
def pF (z : hm) (o u : Int) (s p : Nat) : Int := f_force (tw z s p 1) (tw z s p 2) (pK z o s p) (¬ u = 0)
def pL (z : hm) (o : Int) (s p : Nat) : Int := f_left (tw z s p 3) (pV z s p) (pD z o s p)
def sumF (z : hm) (o u : Int) (s : Nat) : Nat → Int
  | 0 => 0
  | p + 1 => sumF z o u s p + pF z o u s p
def fgv (z : hm) (o g : Int) (s : Nat) (G : Int × Int) : Nat → Int × Int
  | 0 => G
  | p + 1 => if pK z o s p = 4 ∧ (fgv z o g s G p).1 < 0 then (8 * s + p, g) else fgv z o g s G p
def okP2 (z : hm) (o : Int) (s c : Nat) : Prop := ∀ p, p < c → (1 ≤ tw z s p 1 ∧ tw z s p 1 ≤ 200) ∧ (1 ≤ tw z s p 2 ∧ tw z s p 2 ≤ 400) ∧ (0 ≤ tw z s p 4 ∧ tw z s p 4 ≤ 5) ∧ (0 ≤ pV z s p ∧ pV z s p ≤ 60) ∧ 0 ≤ pD z o s p ∧ pD z o s p ≤ 3
theorem sumF_b {z : hm} {o : Int} {s c : Nat} (h : okP2 z o s c) (u : Int) : ∀ p, p ≤ c → 0 ≤ sumF z o u s p ∧ sumF z o u s p ≤ 400 * p
  | 0, _ => by show (0 : Int) ≤ 0 ∧ (0 : Int) ≤ 400 * ((0 : Nat) : Int); omega
  | p + 1, hp => by
    have := sumF_b h u p (by omega)
    have hh := h p (by omega)
    have := f_force_b hh.1 hh.2.1 (pK z o s p) (¬ u = 0)
    show 0 ≤ sumF z o u s p + pF z o u s p ∧ sumF z o u s p + pF z o u s p ≤ 400 * ((p + 1 : Nat) : Int)
    unfold pF
    omega
theorem sp_forceOfSide (l : Launch) {t : Nat} (ht : IsTug t) {N : Int} {x0 z : hm} (hV : okV t N x0 z) (hN : N ≤ 100000) {g : Nat} (hg : z 6368 = g) {s c : Nat} (hs : s < 2) (hc8 : c ≤ 8) (hc : z (6091 + s) = c) {o u : Int} (hP : okP2 z o s c) {x : hm} (k1 : x (t + 73 + 60 * s + g % 60) = o) (k2 : ∀ j, j < 60 → j ≠ g % 60 → x (t + 73 + 60 * s + j) = x0 (t + 73 + 60 * s + j)) (kg : x (t + 4) = g) (kt : ∀ a, 730 ≤ a → a < 902 → x a = x0 a) (kb : ∀ p, p < c → x (t + 16 + 8 * s + p) = pV z s p) (k3 : x (t + 2) = 0 ∨ x (t + 2) = 1) (k4 : ∀ e, e < 2 → 0 ≤ x (t + 12 + e) ∧ x (t + 12 + e) ≤ 100) {G : Int × Int} (kG : x (t + 6) = nb G.1 ∧ (x (t + 7) = if G.1 < 0 then -1000000 else G.2)) {Q : Int → hm → Prop}
    (h : ∀ (e : Nat) (y : hm), e < 2 → ((s : Int) + x (t + 2) = e ∨ (s : Int) + x (t + 2) = e + 2) → (∀ p, p < c → y (t + 16 + 8 * s + p) = pL z o s p ∧ y (t + 34 + 8 * s + p) = pK z o s p ∧ y (t + 52 + 8 * s + p) = pF z o u s p) → (y (t + 6) = nb (fgv z o g s G c).1 ∧ (y (t + 7) = if (fgv z o g s G c).1 < 0 then -1000000 else (fgv z o g s G c).2)) → (∀ a, a ≠ t + 6 → a ≠ t + 7 → ¬ (t + 16 + 8 * s ≤ a ∧ a < t + 16 + 8 * s + c) → ¬ (t + 34 + 8 * s ≤ a ∧ a < t + 34 + 8 * s + c) → ¬ (t + 52 + 8 * s ≤ a ∧ a < t + 52 + 8 * s + c) → y a = x a) → Q ((sumF z o u s c * x (t + 12 + e)).tdiv 100) y) : hm_I l m_X8_forceOfSide 3 [Vr t, Vr 730, Vi s, Vi u] x Q := by
  have htb : 1074 ≤ t ∧ t ≤ 5350 := by unfold IsTug at ht; omega
  have hd := is_side730 hs
  have hV' := hV
  obtain ⟨v1, v2, v3, v4, v5, v6⟩ := hV'
  refine hr_X8_forceOfSide l (Nat.le_of_ble_eq_true rfl) ?_
  intro At h6
  simp only [hb_X8_forceOfSide_0, hc_iconst, hc_lconst, hc_iload, hc_lload, hc_aload, hc_istore, hc_astore, hc_lstore, hc_iinc, hc_dup, hc_dup2, hc_pop, hc_iadd, hc_isub, hc_imul, hc_iaddw, hc_isubw, hc_imulw, hc_inegw, hc_idiv, hc_irem, hc_ineg, hc_b2, hc_b1, hc_i2l, hc_l2i, hc_ladd, hc_l2, hc_lsh, hc_lcmp, hc_if, hc_icmp, hc_jump, hc_getI, hc_getR, hc_putI, hc_putZ, hc_xald, hc_iast, hc_bast, hc_zast, hc_aald, hc_alen, hc_copy, hc_gets, hc_getsI, hc_sald, hc_ldcs, hc_sval, hc_scod, hc_slen, hc_sbald, hc_callI, hc_callL, hc_callV, hc_max, hc_min, hc_abs, hc_ireturn, hc_zreturn, hc_creturn, hc_lreturn, hc_return, hc_none, hc_switch, hv_sw, hv_get, hv_set, hv_set2, hv_mask, hv_fr, hv_noL, hv_pop, hv_pk, hv_isO, hv_isS, hv_any, hv_w, hv_cat, he_nil, he_i, he_r, he_l, hv_repl_0, hv_repl_s, if_true, if_false, and_true, true_and, and_self, Nat.zero_add, Nat.add_zero, Nat.reduceAdd, Nat.reduceLeDiff, List.length_cons, List.length_nil, Int.toNat_natCast, Bool.false_eq_true, reduceIte, Int.toNat_zero, Int.toNat_one, Int.reduceToNat, or_true, true_or, Int.reduceEq, Int.reduceLT, Int.reduceLE, Int.reduceNeg, Int.reduceAdd, Int.reduceSub, Int.reduceMul, Nat.reduceMul, Nat.reduceEqDiff, implies_true, false_implies, true_implies, not_true_eq_false, not_false_eq_true, ne_eq, or_false, false_or, and_false, false_and, or_self, Classical.not_not, Int.zero_add, Int.add_zero, lc_0, lc_22, lc_730, lc_902, lc_1074, lc_1447, lc_1824, lc_2081, lc_2135, lc_4258, lc_5723, lr_0, lt_14, ll_14, lr_2, lr_4, lr_5, lr_6, lr_7, lr_8, lt_1820, ll_1820, lr_9, lt_1822, ll_1822, lr_10, lr_11, lr_12, lr_13, lr_22, lt_30, ll_30, lr_1824, lt_1825, ll_1825, lr_2081, lt_2086, ll_2086, lr_2082, lt_2102, ll_2102, lr_2083, lt_2118, ll_2118, lr_2135, lt_2137, ll_2137, lr_4263, lt_4265, ll_4265, lr_5725, lt_5755, ll_5755, lr_5726, lt_5763, ll_5763, lr_5727, lt_5771, ll_5771, lr_5728, lt_6091, ll_6091, lr_5729, lt_6227, ll_6227, lr_5731, lt_6363, ll_6363, lr_5732, lt_6733, ll_6733, lr_5743, lt_7433, ll_7433, lr_5744, lt_7435, ll_7435, lr_5745, lt_7805, ll_7805, lr_5746, lt_7809, ll_7809, lr_5747, lt_8065, ll_8065, lr_5748, lt_8165, ll_8165, lr_5750, lt_8265, ll_8265, lr_5751, lt_8267, ll_8267, lr_5752, lt_8539, ll_8539, lr_5753, lt_9279, ll_9279, lr_731, lt_733, ll_733, lr_732, lt_899, ll_899, lr_903, lt_905, ll_905, lr_904, lt_1071, ll_1071, lr_1074, lt_1086, ll_1086, lr_1082, lt_1088, ll_1088, lr_1088, lt_1090, ll_1090, lr_1089, lt_1098, ll_1098, lr_1083, lt_1106, ll_1106, lr_1106, lt_1108, ll_1108, lr_1107, lt_1116, ll_1116, lr_1084, lt_1124, ll_1124, lr_1124, lt_1126, ll_1126, lr_1125, lt_1134, ll_1134, lr_1085, lt_1142, ll_1142, lr_1142, lt_1147, ll_1147, lr_1143, lt_1207, ll_1207, lr_1144, lt_1267, ll_1267, lr_1145, lt_1327, ll_1327, lr_1146, lt_1387, ll_1387, lr_1447, lt_1459, ll_1459, lr_1455, lt_1461, ll_1461, lr_1461, lt_1463, ll_1463, lr_1462, lt_1471, ll_1471, lr_1456, lt_1479, ll_1479, lr_1479, lt_1481, ll_1481, lr_1480, lt_1489, ll_1489, lr_1457, lt_1497, ll_1497, lr_1497, lt_1499, ll_1499, lr_1498, lt_1507, ll_1507, lr_1458, lt_1515, ll_1515, lr_1515, lt_1520, ll_1520, lr_1516, lt_1580, ll_1580, lr_1517, lt_1640, ll_1640, lr_1518, lt_1700, ll_1700, lr_1519, lt_1760, ll_1760]
  have main : ∀ q : Nat × hm, (q.1 ≤ c ∧ (∀ p, p < q.1 → q.2 (t + 16 + 8 * s + p) = pL z o s p ∧ q.2 (t + 34 + 8 * s + p) = pK z o s p ∧ q.2 (t + 52 + 8 * s + p) = pF z o u s p) ∧ (q.2 (t + 6) = nb (fgv z o g s G q.1).1 ∧ (q.2 (t + 7) = if (fgv z o g s G q.1).1 < 0 then -1000000 else (fgv z o g s G q.1).2)) ∧ ∀ a, a ≠ t + 6 → a ≠ t + 7 → ¬ (t + 16 + 8 * s ≤ a ∧ a < t + 16 + 8 * s + q.1) → ¬ (t + 34 + 8 * s ≤ a ∧ a < t + 34 + 8 * s + q.1) → ¬ (t + 52 + 8 * s ≤ a ∧ a < t + 52 + 8 * s + q.1) → q.2 a = x a) → At 6 [some (Vr t), some (Vr 730), some (Vi s), some (Vi u), some (Vi (sumF z o u s q.1)), some (Vi q.1)] [] q.2 := by
    refine lp_m (fun q : Nat × hm => c - q.1) ?_
    rintro ⟨p, y⟩ ⟨a1, a2, a3, a4⟩ ih
    dsimp only at a1 a2 a3 a4
    have ec : y (735 + 82 * s) = c := by
      rw [a4 _ (by omega) (by omega) (by omega) (by omega) (by omega), kt _ (by omega) (by omega), ← v1 _ (by omega), show z (735 + 82 * s) = z (6091 + s) from (v5.1 s hs).1]; exact hc
    have sb := sumF_b hP u p a1
    refine h6 _ _ _ ?_
    simp only [hb_X8_forceOfSide_60, hb_X8_forceOfSide_20, hb_X8_forceOfSide_6, hb_X8_forceOfSide_0, hc_iconst, hc_lconst, hc_iload, hc_lload, hc_aload, hc_istore, hc_astore, hc_lstore, hc_iinc, hc_dup, hc_dup2, hc_pop, hc_iadd, hc_isub, hc_imul, hc_iaddw, hc_isubw, hc_imulw, hc_inegw, hc_idiv, hc_irem, hc_ineg, hc_b2, hc_b1, hc_i2l, hc_l2i, hc_ladd, hc_l2, hc_lsh, hc_lcmp, hc_if, hc_icmp, hc_jump, hc_getI, hc_getR, hc_putI, hc_putZ, hc_xald, hc_iast, hc_bast, hc_zast, hc_aald, hc_alen, hc_copy, hc_gets, hc_getsI, hc_sald, hc_ldcs, hc_sval, hc_scod, hc_slen, hc_sbald, hc_callI, hc_callL, hc_callV, hc_max, hc_min, hc_abs, hc_ireturn, hc_zreturn, hc_creturn, hc_lreturn, hc_return, hc_none, hc_switch, hv_sw, hv_get, hv_set, hv_set2, hv_mask, hv_fr, hv_noL, hv_pop, hv_pk, hv_isO, hv_isS, hv_any, hv_w, hv_cat, he_nil, he_i, he_r, he_l, hv_repl_0, hv_repl_s, if_true, if_false, and_true, true_and, and_self, Nat.zero_add, Nat.add_zero, Nat.reduceAdd, Nat.reduceLeDiff, List.length_cons, List.length_nil, Int.toNat_natCast, Bool.false_eq_true, reduceIte, Int.toNat_zero, Int.toNat_one, Int.reduceToNat, or_true, true_or, Int.reduceEq, Int.reduceLT, Int.reduceLE, Int.reduceNeg, Int.reduceAdd, Int.reduceSub, Int.reduceMul, Nat.reduceMul, Nat.reduceEqDiff, implies_true, false_implies, true_implies, not_true_eq_false, not_false_eq_true, ne_eq, or_false, false_or, and_false, false_and, or_self, Classical.not_not, Int.zero_add, Int.add_zero, lc_0, lc_22, lc_730, lc_902, lc_1074, lc_1447, lc_1824, lc_2081, lc_2135, lc_4258, lc_5723, lr_0, lt_14, ll_14, lr_2, lr_4, lr_5, lr_6, lr_7, lr_8, lt_1820, ll_1820, lr_9, lt_1822, ll_1822, lr_10, lr_11, lr_12, lr_13, lr_22, lt_30, ll_30, lr_1824, lt_1825, ll_1825, lr_2081, lt_2086, ll_2086, lr_2082, lt_2102, ll_2102, lr_2083, lt_2118, ll_2118, lr_2135, lt_2137, ll_2137, lr_4263, lt_4265, ll_4265, lr_5725, lt_5755, ll_5755, lr_5726, lt_5763, ll_5763, lr_5727, lt_5771, ll_5771, lr_5728, lt_6091, ll_6091, lr_5729, lt_6227, ll_6227, lr_5731, lt_6363, ll_6363, lr_5732, lt_6733, ll_6733, lr_5743, lt_7433, ll_7433, lr_5744, lt_7435, ll_7435, lr_5745, lt_7805, ll_7805, lr_5746, lt_7809, ll_7809, lr_5747, lt_8065, ll_8065, lr_5748, lt_8165, ll_8165, lr_5750, lt_8265, ll_8265, lr_5751, lt_8267, ll_8267, lr_5752, lt_8539, ll_8539, lr_5753, lt_9279, ll_9279, lr_731, lt_733, ll_733, lr_732, lt_899, ll_899, lr_903, lt_905, ll_905, lr_904, lt_1071, ll_1071, lr_1074, lt_1086, ll_1086, lr_1082, lt_1088, ll_1088, lr_1088, lt_1090, ll_1090, lr_1089, lt_1098, ll_1098, lr_1083, lt_1106, ll_1106, lr_1106, lt_1108, ll_1108, lr_1107, lt_1116, ll_1116, lr_1084, lt_1124, ll_1124, lr_1124, lt_1126, ll_1126, lr_1125, lt_1134, ll_1134, lr_1085, lt_1142, ll_1142, lr_1142, lt_1147, ll_1147, lr_1143, lt_1207, ll_1207, lr_1144, lt_1267, ll_1267, lr_1145, lt_1327, ll_1327, lr_1146, lt_1387, ll_1387, lr_1447, lt_1459, ll_1459, lr_1455, lt_1461, ll_1461, lr_1461, lt_1463, ll_1463, lr_1462, lt_1471, ll_1471, lr_1456, lt_1479, ll_1479, lr_1479, lt_1481, ll_1481, lr_1480, lt_1489, ll_1489, lr_1457, lt_1497, ll_1497, lr_1497, lt_1499, ll_1499, lr_1498, lt_1507, ll_1507, lr_1458, lt_1515, ll_1515, lr_1515, lt_1520, ll_1520, lr_1516, lt_1580, ll_1580, lr_1517, lt_1640, ll_1640, lr_1518, lt_1700, ll_1700, lr_1519, lt_1760, ll_1760, tg_cls ht, tg_rf0 ht, tg_rf8 ht, tg_rf9 ht, tg_rf10 ht, tg_rf11 ht, tg_t12 ht, tg_l12 ht, tg_t14 ht, tg_l14 ht, tg_r14 ht, tg_t16 ht, tg_l16 ht, tg_r15 ht, tg_t24 ht, tg_l24 ht, tg_t32 ht, tg_l32 ht, tg_r32 ht, tg_t34 ht, tg_l34 ht, tg_r33 ht, tg_t42 ht, tg_l42 ht, tg_t50 ht, tg_l50 ht, tg_r50 ht, tg_t52 ht, tg_l52 ht, tg_r51 ht, tg_t60 ht, tg_l60 ht, tg_t68 ht, tg_l68 ht, tg_r68 ht, tg_t73 ht, tg_l73 ht, tg_r69 ht, tg_t133 ht, tg_l133 ht, tg_r70 ht, tg_t193 ht, tg_l193 ht, tg_r71 ht, tg_t253 ht, tg_l253 ht, tg_r72 ht, tg_t313 ht, tg_l313 ht]
    rw [lr_m733 hs]
    simp only [sd_cls hd, sd_rf1 hd, sd_t4 hd, sd_l4 hd, true_and, ec]
    refine ⟨⟨by omega, by omega⟩, fun gg => ?_, fun gg => ?_⟩
    · have : p = c := by omega
      subst this
      have e2 : y (t + 2) = x (t + 2) := a4 _ (by omega) (by omega) (by omega) (by omega) (by omega)
      refine sp_endUnder l ht hs (by rw [e2]; exact k3) (fun e he hes => ?_)
      rw [e2] at hes
      have eg : y (t + 12 + e) = x (t + 12 + e) := a4 _ (by omega) (by omega) (by omega) (by omega) (by omega)
      have g4 := k4 e he
      rw [Int.toNat_natCast, eg]
      have m1 : sumF z o u s p * x (t + 12 + e) ≤ 3200 * 100 := Int.mul_le_mul (by omega) g4.2 g4.1 (by omega)
      have m2 : 0 ≤ sumF z o u s p * x (t + 12 + e) := Int.mul_nonneg sb.1 g4.1
      have fn := h e y he hes a2 a3 a4
      (repeat' (with_reducible refine And.intro ?_ ?_)) <;> first | exact fn | exact trivial | omega | exact ⟨by omega, by omega⟩
    · have hpc : p < c := by omega
      obtain ⟨q1, q2, q4, qv, qd⟩ := hP p hpc
      have hp8 : p < 8 := by omega
      have ytr : ∀ k, k < 5 → y (735 + 82 * s + 12 + 5 * p + k) = tw z s p k := fun k hk => by
        rw [a4 _ (by omega) (by omega) (by omega) (by omega) (by omega), kt _ (by omega) (by omega), ← v1 _ (by omega)]
        exact RM.tr v5 hs hp8 (by rw [hc]; omega) hk
      have hm60 : g % 60 < 60 := Nat.mod_lt _ (by decide)
      have y1 : y (t + 73 + 60 * s + g % 60) = o := by rw [a4 _ (by omega) (by omega) (by omega) (by omega) (by omega)]; exact k1
      have y2 : ∀ j, j < 60 → j ≠ g % 60 → y (t + 73 + 60 * s + j) = x0 (t + 73 + 60 * s + j) := fun j h1 h2 => by rw [a4 _ (by omega) (by omega) (by omega) (by omega) (by omega)]; exact k2 j h1 h2
      have y4 : y (t + 4) = g := by rw [a4 _ (by omega) (by omega) (by omega) (by omega) (by omega)]; exact kg
      have yb : y (t + 16 + 8 * s + p) = pV z s p := by rw [a4 _ (by omega) (by omega) (by omega) (by omega) (by omega)]; exact kb p hpc
      have yl : y (735 + 82 * s + 12 + 5 * p + 4) = ((tw z s p 4).toNat : Nat) := by rw [ytr 4 (by omega)]; omega
      simp only [sd_r4 hd hp8, true_and]
      refine ⟨⟨by omega, by omega⟩, ⟨by decide, by decide, by omega, by omega⟩, ?_⟩
      refine sp_doTenth l ht hV hN hg hs hp8 (show (tw z s p 4).toNat ≤ 5 by omega) y1 y2 y4 qd (ytr 1 (by omega)) (ytr 2 (by omega)) (ytr 3 (by omega)) yl q1 q2 yb qv (fun v w1 w2 w3 w4 w5 => ?_)
      rw [tk_rf_fo ht hs]
      simp only [tk_tag_fo ht hs, tk_len_fo ht hs, true_and]
      have ef : v (t + 52 + 8 * s + p) = pF z o u s p := w3
      rw [ef]
      have fb := f_force_b q1 q2 (pK z o s p) (¬ u = 0)
      have fb' : 0 ≤ pF z o u s p ∧ pF z o u s p ≤ 400 := fb
      have es : sumF z o u s (p + 1) = sumF z o u s p + pF z o u s p := rfl
      have eg : fgv z o g s G (p + 1) = if pK z o s p = 4 ∧ (fgv z o g s G p).1 < 0 then (8 * (s : Int) + p, (g : Int)) else fgv z o g s G p := rfl
      have w4' : (if pK z o s p = 4 ∧ y (t + 6) = -1000000 then v (t + 6) = 8 * s + p ∧ v (t + 7) = g else v (t + 6) = y (t + 6) ∧ v (t + 7) = y (t + 7)) := w4
      have ih' := ih (p + 1, v) ⟨by show p + 1 ≤ c; omega, fun p' hp' => ?_, ?_, fun a c1 c2 c3 c4 c5 => ?_⟩ (by show c - (p + 1) < c - p; omega)
      rotate_left
      · show v _ = _ ∧ v _ = _ ∧ v _ = _
        have hp' : p' < p + 1 := hp'
        by_cases e : p' = p
        · subst e; exact ⟨w1, w2, w3⟩
        · rw [w5 _ (by omega) (by omega) (by omega) (by omega) (by omega), w5 _ (by omega) (by omega) (by omega) (by omega) (by omega), w5 _ (by omega) (by omega) (by omega) (by omega) (by omega)]
          exact a2 p' (by omega)
      · show v (t + 6) = nb (fgv z o g s G (p + 1)).1 ∧ (v (t + 7) = if (fgv z o g s G (p + 1)).1 < 0 then -1000000 else (fgv z o g s G (p + 1)).2)
        rw [eg]
        have hnb : y (t + 6) = -1000000 ↔ (fgv z o g s G p).1 < 0 := by
          rw [a3.1]; unfold nb
          split
          · exact ⟨fun _ => by assumption, fun _ => rfl⟩
          · exact ⟨fun h => by omega, fun h => by omega⟩
        by_cases cc : pK z o s p = 4 ∧ (fgv z o g s G p).1 < 0
        · rw [if_pos cc]
          rw [if_pos ⟨cc.1, hnb.mpr cc.2⟩] at w4'
          refine ⟨?_, ?_⟩
          · rw [w4'.1]; unfold nb; rw [if_neg (by show ¬ (8 * (s : Int) + p) < 0; omega)]
          · rw [if_neg (by show ¬ (8 * (s : Int) + p) < 0; omega)]; exact w4'.2
        · rw [if_neg cc]
          rw [if_neg (fun h => cc ⟨h.1, hnb.mp h.2⟩)] at w4'
          rw [w4'.1, w4'.2]
          exact a3
      · show v a = x a
        have c3 : ¬ (t + 16 + 8 * s ≤ a ∧ a < t + 16 + 8 * s + (p + 1)) := c3
        have c4 : ¬ (t + 34 + 8 * s ≤ a ∧ a < t + 34 + 8 * s + (p + 1)) := c4
        have c5 : ¬ (t + 52 + 8 * s ≤ a ∧ a < t + 52 + 8 * s + (p + 1)) := c5
        rw [w5 a c1 c2 (by omega) (by omega) (by omega)]
        exact a4 a c1 c2 (by omega) (by omega) (by omega)
      rw [es] at ih'
      (repeat' (with_reducible refine And.intro ?_ ?_)) <;> first | exact ih' | exact trivial | omega | exact ⟨by omega, by omega⟩
  exact main (0, x) ⟨Nat.zero_le _, fun p hp => absurd hp (Nat.not_lt_zero _), kG, fun _ _ _ _ _ _ => rfl⟩
