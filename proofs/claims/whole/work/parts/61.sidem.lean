/-! a tenth: one side, the reference -/
theorem tn_side (l : Launch) {At : Nat → hv_K hm} {Q : hm → Prop} (h63 : ∀ lo st x, hb_X10_tenth_63 l At Q lo st x → At 63 lo st x) {z : hm} {o o2 : Int} {g : Nat} {s c : Nat} (hs : s < 2) (hc8 : c ≤ 8) (hc : z (6091 + s) = c) (hP : okP2 z o s c) {y : hm} (kM : ∀ a, 6091 ≤ a → a < 6227 → y a = z a) (ko : ∀ lag, lag ≤ 5 → y (6363 + (58 + 2 * lag + s)) = ordz z o s lag) (k2 : y (6363 + (59 - s)) = o2) (kb : ∀ p, p < c → y (6363 + (10 + 8 * s + p)) = pV z s p) (kg : y 6368 = g)
    (h : ∀ v : hm, (∀ p, p < c → v (6363 + (10 + 8 * s + p)) = pL z o s p ∧ v (6363 + (26 + 8 * s + p)) = pK z o s p ∧ v (6363 + (42 + 8 * s + p)) = pF z o (if o2 = 1 then 1 else 0) s p) → (v 6370, v 6371) = fgv z o g s (y 6370, y 6371) c → (∀ a, a ≠ 6370 → a ≠ 6371 → ¬ (6373 + 8 * s ≤ a ∧ a < 6373 + 8 * s + c) → ¬ (6389 + 8 * s ≤ a ∧ a < 6389 + 8 * s + c) → ¬ (6405 + 8 * s ≤ a ∧ a < 6405 + 8 * s + c) → v a = y a) → hb_X10_tenth_132 l At Q [some (Vr 5723), none, none, some (Vi s), some (Vi (sumF z o (if o2 = 1 then 1 else 0) s c)), none] [] v) : At 63 [some (Vr 5723), none, none, some (Vi s), some (Vi 0), some (Vi 0)] [] y := by
  have main : ∀ q : Nat × hm, (q.1 ≤ c ∧ (∀ p, p < q.1 → q.2 (6363 + (10 + 8 * s + p)) = pL z o s p ∧ q.2 (6363 + (26 + 8 * s + p)) = pK z o s p ∧ q.2 (6363 + (42 + 8 * s + p)) = pF z o (if o2 = 1 then 1 else 0) s p) ∧ (q.2 6370, q.2 6371) = fgv z o g s (y 6370, y 6371) q.1 ∧ (∀ a, a ≠ 6370 → a ≠ 6371 → ¬ (6373 + 8 * s ≤ a ∧ a < 6373 + 8 * s + q.1) → ¬ (6389 + 8 * s ≤ a ∧ a < 6389 + 8 * s + q.1) → ¬ (6405 + 8 * s ≤ a ∧ a < 6405 + 8 * s + q.1) → q.2 a = y a)) → At 63 [some (Vr 5723), none, none, some (Vi s), some (Vi (sumF z o (if o2 = 1 then 1 else 0) s q.1)), some (Vi q.1)] [] q.2 := by
    refine lp_m (fun q : Nat × hm => c - q.1) ?_
    rintro ⟨p, v⟩ ⟨a1, a2, a3, a4⟩ ih
    dsimp only at a1 a2 a3 a4
    have ec : v (6091 + s) = c := by rw [a4 _ (by omega) (by omega) (by omega) (by omega) (by omega), kM _ (by omega) (by omega)]; exact hc
    have sb := sumF_b hP (if o2 = 1 then 1 else 0) p a1
    refine h63 _ _ _ ?_
    simp only [hb_X10_tenth_63, hb_X10_tenth_76, hb_X10_tenth_115, hb_X10_tenth_119, hb_X10_tenth_120, hc_iconst, hc_lconst, hc_iload, hc_lload, hc_aload, hc_istore, hc_astore, hc_lstore, hc_iinc, hc_dup, hc_dup2, hc_pop, hc_iadd, hc_isub, hc_imul, hc_iaddw, hc_isubw, hc_imulw, hc_inegw, hc_idiv, hc_irem, hc_ineg, hc_b2, hc_b1, hc_i2l, hc_l2i, hc_ladd, hc_l2, hc_lsh, hc_lcmp, hc_if, hc_icmp, hc_jump, hc_getI, hc_getR, hc_putI, hc_putZ, hc_xald, hc_iast, hc_bast, hc_zast, hc_aald, hc_alen, hc_copy, hc_gets, hc_getsI, hc_sald, hc_ldcs, hc_sval, hc_scod, hc_slen, hc_sbald, hc_callI, hc_callL, hc_callV, hc_max, hc_min, hc_abs, hc_ireturn, hc_zreturn, hc_creturn, hc_lreturn, hc_return, hc_none, hc_switch, hv_sw, hv_get, hv_set, hv_set2, hv_mask, hv_fr, hv_noL, hv_pop, hv_pk, hv_isO, hv_isS, hv_any, hv_w, hv_cat, he_nil, he_i, he_r, he_l, hv_repl_0, hv_repl_s, if_true, if_false, and_true, true_and, and_self, Nat.zero_add, Nat.add_zero, Nat.reduceAdd, Nat.reduceLeDiff, List.length_cons, List.length_nil, Int.toNat_natCast, Bool.false_eq_true, reduceIte, Int.toNat_zero, Int.toNat_one, Int.reduceToNat, or_true, true_or, Int.reduceEq, Int.reduceLT, Int.reduceLE, Int.reduceNeg, Int.reduceAdd, Int.reduceSub, Int.reduceMul, Nat.reduceMul, Nat.reduceEqDiff, implies_true, false_implies, true_implies, not_true_eq_false, not_false_eq_true, ne_eq, or_false, false_or, and_false, false_and, or_self, Classical.not_not, Int.zero_add, Int.add_zero, lc_0, lc_22, lc_730, lc_902, lc_1074, lc_1447, lc_1824, lc_2081, lc_2135, lc_4258, lc_5723, lr_0, lt_14, ll_14, lr_2, lr_4, lr_5, lr_6, lr_7, lr_8, lt_1820, ll_1820, lr_9, lt_1822, ll_1822, lr_10, lr_11, lr_12, lr_13, lr_22, lt_30, ll_30, lr_1824, lt_1825, ll_1825, lr_2081, lt_2086, ll_2086, lr_2082, lt_2102, ll_2102, lr_2083, lt_2118, ll_2118, lr_2135, lt_2137, ll_2137, lr_4263, lt_4265, ll_4265, lr_5725, lt_5755, ll_5755, lr_5726, lt_5763, ll_5763, lr_5727, lt_5771, ll_5771, lr_5728, lt_6091, ll_6091, lr_5729, lt_6227, ll_6227, lr_5731, lt_6363, ll_6363, lr_5732, lt_6733, ll_6733, lr_5743, lt_7433, ll_7433, lr_5744, lt_7435, ll_7435, lr_5745, lt_7805, ll_7805, lr_5746, lt_7809, ll_7809, lr_5747, lt_8065, ll_8065, lr_5748, lt_8165, ll_8165, lr_5750, lt_8265, ll_8265, lr_5751, lt_8267, ll_8267, lr_5752, lt_8539, ll_8539, lr_5753, lt_9279, ll_9279, lr_731, lt_733, ll_733, lr_732, lt_899, ll_899, lr_903, lt_905, ll_905, lr_904, lt_1071, ll_1071, lr_1074, lt_1086, ll_1086, lr_1082, lt_1088, ll_1088, lr_1088, lt_1090, ll_1090, lr_1089, lt_1098, ll_1098, lr_1083, lt_1106, ll_1106, lr_1106, lt_1108, ll_1108, lr_1107, lt_1116, ll_1116, lr_1084, lt_1124, ll_1124, lr_1124, lt_1126, ll_1126, lr_1125, lt_1134, ll_1134, lr_1085, lt_1142, ll_1142, lr_1142, lt_1147, ll_1147, lr_1143, lt_1207, ll_1207, lr_1144, lt_1267, ll_1267, lr_1145, lt_1327, ll_1327, lr_1146, lt_1387, ll_1387, lr_1447, lt_1459, ll_1459, lr_1455, lt_1461, ll_1461, lr_1461, lt_1463, ll_1463, lr_1462, lt_1471, ll_1471, lr_1456, lt_1479, ll_1479, lr_1479, lt_1481, ll_1481, lr_1480, lt_1489, ll_1489, lr_1457, lt_1497, ll_1497, lr_1497, lt_1499, ll_1499, lr_1498, lt_1507, ll_1507, lr_1458, lt_1515, ll_1515, lr_1515, lt_1520, ll_1520, lr_1516, lt_1580, ll_1580, lr_1517, lt_1640, ll_1640, lr_1518, lt_1700, ll_1700, lr_1519, lt_1760, ll_1760]
    rw [ec]
    refine ⟨⟨by omega, by omega⟩, ⟨by omega, by omega⟩, fun gg => ?_, fun gg => ?_⟩
    · have : p = c := by omega
      subst this
      exact h v a2 a3 a4
    · have hpc : p < c := by omega
      obtain ⟨q1, q2, q4, qv, qd⟩ := hP p hpc
      have hp8 : p < 8 := by omega
      have vM : ∀ a, 6091 ≤ a → a < 6227 → v a = z a := fun a h1 h2 => by rw [a4 _ (by omega) (by omega) (by omega) (by omega) (by omega)]; exact kM a h1 h2
      refine sp_of (k := 4) l hs hp8 (by decide) ?_
      have e4 : v (6091 + (8 + 40 * s + 5 * p + 4)) = tw z s p 4 := vM _ (by omega) (by omega)
      obtain ⟨lag, hlag⟩ := Int.eq_ofNat_of_zero_le q4.1
      rw [e4, hlag]
      have hl5 : lag ≤ 5 := by omega
      have ei : (58 + 2 * (lag : Int) + s).toNat = 58 + 2 * lag + s := by omega
      have e59 : (59 - (s : Int)).toNat = 59 - s := by omega
      have eo : v (6363 + (58 + 2 * lag + s)) = pD z o s p := by
        rw [a4 _ (by omega) (by omega) (by omega) (by omega) (by omega), ko lag hl5]
        unfold pD; rw [hlag, Int.toNat_natCast]
      have e2 : v (6363 + (59 - s)) = o2 := by rw [a4 _ (by omega) (by omega) (by omega) (by omega) (by omega)]; exact k2
      rw [ei, e59, eo, e2]
      have vb : v (6363 + (10 + 8 * s + p)) = pV z s p := by rw [a4 _ (by omega) (by omega) (by omega) (by omega) (by omega)]; exact kb p hpc
      have vg : v 6368 = g := by rw [a4 _ (by omega) (by omega) (by omega) (by omega) (by omega)]; exact kg
      have fb := f_force_b q1 q2 (pK z o s p) (¬ (if o2 = 1 then (1 : Int) else 0) = 0)
      have fb' : 0 ≤ pF z o (if o2 = 1 then 1 else 0) s p ∧ pF z o (if o2 = 1 then 1 else 0) s p ≤ 400 := fb
      have dz : ∀ uu : Int, uu = (if o2 = 1 then 1 else 0) → hm_I l m_X10_does 2 [Vr 5723, Vi s, Vi p, Vi (pD z o s p), Vi uu] v (fun r x' => hv_I (sumF z o (if o2 = 1 then 1 else 0) s p + r) ∧ hv_I ((p : Int) + 1) ∧ At 63 [some (Vr 5723), none, none, some (Vi s), some (Vi (sumF z o (if o2 = 1 then 1 else 0) s p + r)), some (Vi ((p : Int) + 1))] [] x') := by
        intro uu huu
        subst huu
        refine sp_does (x := z) l vM hs hp8 qd q1 q2 vb qv (fun w w1 w2 w3 w4 w5 => ?_)
        show hv_I (sumF z o (if o2 = 1 then 1 else 0) s p + pF z o (if o2 = 1 then 1 else 0) s p) ∧ _ ∧ At 63 [_, _, _, _, some (Vi (sumF z o (if o2 = 1 then 1 else 0) s p + pF z o (if o2 = 1 then 1 else 0) s p)), _] [] w
        have w4' : if pK z o s p = 4 ∧ v 6370 < 0 then w 6370 = 8 * s + p ∧ w 6371 = v 6368 else w 6370 = v 6370 ∧ w 6371 = v 6371 := w4
        refine ⟨⟨by omega, by omega⟩, ⟨by omega, by omega⟩, ih (p + 1, w) ⟨by show p + 1 ≤ c; omega, fun p' hp' => ?_, ?_, fun a c1 c2 c3 c4 c5 => ?_⟩ (by show c - (p + 1) < c - p; omega)⟩
        · show w _ = _ ∧ w _ = _ ∧ w _ = _
          have hp' : p' < p + 1 := hp'
          by_cases e : p' = p
          · subst e; exact ⟨w1, w2, w3⟩
          · rw [w5 _ (by omega) (by omega) (by omega) (by omega) (by omega), w5 _ (by omega) (by omega) (by omega) (by omega) (by omega), w5 _ (by omega) (by omega) (by omega) (by omega) (by omega)]
            exact a2 p' (by omega)
        · show (w 6370, w 6371) = (if pK z o s p = 4 ∧ (fgv z o g s (y 6370, y 6371) p).1 < 0 then (8 * (s : Int) + p, (g : Int)) else fgv z o g s (y 6370, y 6371) p)
          rw [← a3]
          by_cases cc : pK z o s p = 4 ∧ v 6370 < 0
          · rw [if_pos cc] at w4'
            rw [if_pos (show pK z o s p = 4 ∧ (v 6370, v 6371).1 < 0 from cc), w4'.1, w4'.2, vg]
          · rw [if_neg cc] at w4'
            rw [if_neg (show ¬ (pK z o s p = 4 ∧ (v 6370, v 6371).1 < 0) from cc), w4'.1, w4'.2]
        · show w a = y a
          have c3 : ¬ (6373 + 8 * s ≤ a ∧ a < 6373 + 8 * s + (p + 1)) := c3
          have c4 : ¬ (6389 + 8 * s ≤ a ∧ a < 6389 + 8 * s + (p + 1)) := c4
          have c5 : ¬ (6405 + 8 * s ≤ a ∧ a < 6405 + 8 * s + (p + 1)) := c5
          rw [w5 a c1 c2 (by omega) (by omega) (by omega)]
          exact a4 a c1 c2 (by omega) (by omega) (by omega)
      have dn : ¬ o2 = 1 → _ := fun c1 => dz 0 (by rw [if_neg c1])
      have dp : o2 = 1 → _ := fun c1 => dz 1 (by rw [if_pos c1])
      (repeat' (with_reducible refine And.intro ?_ ?_)) <;> first | exact dn | exact dp | exact trivial | omega | exact ⟨by omega, by omega⟩
  exact main (0, y) ⟨Nat.zero_le _, fun p hp => absurd hp (Nat.not_lt_zero _), rfl, fun _ _ _ _ _ _ => rfl⟩
