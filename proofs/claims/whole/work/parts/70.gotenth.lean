/-! a tenth, the class -/
theorem clamp3_max (d : Int) : max (-3) (min 3 d) = clamp3 d := by unfold clamp3; (repeat' split) <;> omega
theorem sp_goTenth (l : Launch) {t : Nat} (ht : IsTug t) {N : Int} {x z : hm} (hV : okV t N x z) (hN : N ≤ 100000) {o0 o1 : Int} (h0 : 0 ≤ o0 ∧ o0 ≤ 3) (h1 : 0 ≤ o1 ∧ o1 ≤ 3) {g : Nat} (hg : z 6368 = g) {Q : hm → Prop} (h : ∀ w : hm, gtP t x z w o0 o1 g → Q w) : hm_V l m_X8_goTenth 4 [Vr t, Vr 730, Vi o0, Vi o1] x Q := by
  have htb : 1074 ≤ t ∧ t ≤ 5350 := by unfold IsTug at ht; omega
  have hV' := hV
  obtain ⟨v1, v2, v3, v4, v5, v6⟩ := hV'
  have hgr := OT.grip v6 v3
  have c0b := cnt_b v6 (show 0 < 2 by omega)
  have c1b := cnt_b v6 (show 1 < 2 by omega)
  have f0b := frc_b v6 v3 v4 h0 h1 (show 0 < 2 by omega)
  have f1b := frc_b v6 v3 v4 h0 h1 (show 1 < 2 by omega)
  obtain ⟨bch, bth, bgo, -, -, -, -⟩ := (v3.2.2.1 v4).1
  have bch : z 6366 = 0 ∨ z 6366 = 1 := bch
  have bth : -102 ≤ z 6367 ∧ z 6367 ≤ 102 := bth
  have bgo : 0 ≤ z 6368 ∧ z 6368 ≤ N := bgo
  have bwe : 0 ≤ z 6097 ∧ z 6097 ≤ 20 := v6.2.2.1
  have bfar : 1 ≤ z 6098 ∧ z 6098 ≤ 99 := v6.2.2.2
  have X : ∀ a, a < 6363 → z a = x a := fun a ha => v1 a (by omega)
  obtain ⟨g1, ⟨g2, g2'⟩, g3⟩ := v2
  obtain ⟨⟨r1, r2, r3, r4, r5, r6⟩, d1, d2⟩ := g3 v4
  rw [X _ (by omega)] at g1 g2 g2' r1 r2 r3 r4 r5 r6
  have r1 : x (t + 2) = z 6366 := r1
  have r2 : x (t + 3) = z 6367 := r2
  have r3 : x (t + 4) = z 6368 := r3
  have r5 : x (t + 6) = nb (z 6370) := r5
  have r6 : x (t + 7) = if z 6370 < 0 then -1000000 else z 6371 := r6
  have gx : ∀ e, e < 2 → x (t + 12 + e) = z (6363 + e) := fun e he => by
    rcases (show e = 0 ∨ e = 1 by omega) with rfl | rfl
    · exact g2
    · exact g2'
  have x900 : x 900 = z 6097 := by rw [← X _ (by omega)]; exact v5.2 1 (by omega)
  have x901 : x 901 = z 6098 := by rw [← X _ (by omega)]; exact v5.2 2 (by omega)
  have hm60 : g % 60 < 60 := Nat.mod_lt _ (by decide)
  have em : (g : Int).tmod 60 = ((g % 60 : Nat) : Int) := by rw [Int.tmod_eq_emod_of_nonneg (by omega)]; omega
  have tail60 : ∀ (u : Int) (y : hm), u = uS o0 o1 1 → y (t + 73 + g % 60) = o0 → y (t + 133 + g % 60) = o1 → (∀ s, s < 2 → ∀ j, j < 60 → j ≠ g % 60 → y (t + 73 + 60 * s + j) = x (t + 73 + 60 * s + j)) → (∀ p, p < cnt z 0 → y (t + 16 + p) = pL z o0 0 p ∧ y (t + 34 + p) = pK z o0 0 p ∧ y (t + 52 + p) = pF z o0 (uS o0 o1 0) 0 p) → (y (t + 6) = nb (fgv z o0 g 0 (z 6370, z 6371) (cnt z 0)).1 ∧ y (t + 7) = if (fgv z o0 g 0 (z 6370, z 6371) (cnt z 0)).1 < 0 then -1000000 else (fgv z o0 g 0 (z 6370, z 6371) (cnt z 0)).2) → (∀ a, a ≠ t + 6 → a ≠ t + 7 → ¬ (t + 16 ≤ a ∧ a < t + 16 + cnt z 0) → ¬ (t + 34 ≤ a ∧ a < t + 34 + cnt z 0) → ¬ (t + 52 ≤ a ∧ a < t + 52 + cnt z 0) → ¬ (t + 73 ≤ a ∧ a < t + 193) → y a = x a) → hb_X8_goTenth_60 l Q [some (Vr t), some (Vr 730), some (Vi o0), some (Vi o1), some (Vi (g % 60 : Nat)), some (Vi (frc z o0 o1 0)), none] [Vi u, Vi 1, Vr 730, Vr t] y := by
    intro u y hu k0 k1 kj kp kG kf
    subst hu
    have Y : ∀ a, a < t → y a = x a := fun a ha => kf a (by omega) (by omega) (by omega) (by omega) (by omega) (by omega)
    have eA : ∀ (m : hm) v, hh_upd m (t + 193 + g % 60) v (t + 3) = m (t + 3) := fun m v => hh_upd_ne (by omega)
    have eB : ∀ (m : hm) v, hh_upd m (t + 253 + g % 60) v (t + 3) = m (t + 3) := fun m v => hh_upd_ne (by omega)
    have eC : ∀ (m : hm) v, hh_upd m (t + 313 + g % 60) v (t + 3) = m (t + 3) := fun m v => hh_upd_ne (by omega)
    have eD : ∀ (m : hm) v, hh_upd m (t + 4) v (t + 3) = m (t + 3) := fun m v => hh_upd_ne (by omega)
    have eE' : ∀ (m : hm) v, hh_upd m (t + 193 + g % 60) v (t + 4) = m (t + 4) := fun m v => hh_upd_ne (by omega)
    have eF : ∀ (m : hm) v, hh_upd m (t + 253 + g % 60) v (t + 4) = m (t + 4) := fun m v => hh_upd_ne (by omega)
    have eG : ∀ (m : hm) v, hh_upd m (t + 313 + g % 60) v (t + 4) = m (t + 4) := fun m v => hh_upd_ne (by omega)
    have eH : ∀ (m : hm) v, hh_upd m (t + 3) v (t + 4) = m (t + 4) := fun m v => hh_upd_ne (by omega)
    have e9 : ∀ (m : hm) (b : Nat) v, hh_upd m (t + b) v 901 = m 901 := fun m b v => hh_upd_ne (by omega)
    have e9' : ∀ (m : hm) (b : Nat) v, hh_upd m (t + b + g % 60) v 901 = m 901 := fun m b v => hh_upd_ne (by omega)
    simp only [hb_X8_goTenth_60, hb_X8_goTenth_164, hb_X8_goTenth_168, hb_X8_goTenth_182, hb_X8_goTenth_186, hb_X8_goTenth_188, hc_iconst, hc_lconst, hc_iload, hc_lload, hc_aload, hc_istore, hc_astore, hc_lstore, hc_iinc, hc_dup, hc_dup2, hc_pop, hc_iadd, hc_isub, hc_imul, hc_iaddw, hc_isubw, hc_imulw, hc_inegw, hc_idiv, hc_irem, hc_ineg, hc_b2, hc_b1, hc_i2l, hc_l2i, hc_ladd, hc_l2, hc_lsh, hc_lcmp, hc_if, hc_icmp, hc_jump, hc_getI, hc_getR, hc_putI, hc_putZ, hc_xald, hc_iast, hc_bast, hc_zast, hc_aald, hc_alen, hc_copy, hc_gets, hc_getsI, hc_sald, hc_ldcs, hc_sval, hc_scod, hc_slen, hc_sbald, hc_callI, hc_callL, hc_callV, hc_max, hc_min, hc_abs, hc_ireturn, hc_zreturn, hc_creturn, hc_lreturn, hc_return, hc_none, hc_switch, hv_sw, hv_get, hv_set, hv_set2, hv_mask, hv_fr, hv_noL, hv_pop, hv_pk, hv_isO, hv_isS, hv_any, hv_w, hv_cat, he_nil, he_i, he_r, he_l, hv_repl_0, hv_repl_s, if_true, if_false, and_true, true_and, and_self, Nat.zero_add, Nat.add_zero, Nat.reduceAdd, Nat.reduceLeDiff, List.length_cons, List.length_nil, Int.toNat_natCast, Bool.false_eq_true, reduceIte, Int.toNat_zero, Int.toNat_one, Int.reduceToNat, or_true, true_or, Int.reduceEq, Int.reduceLT, Int.reduceLE, Int.reduceNeg, Int.reduceAdd, Int.reduceSub, Int.reduceMul, Nat.reduceMul, Nat.reduceEqDiff, implies_true, false_implies, true_implies, not_true_eq_false, not_false_eq_true, ne_eq, or_false, false_or, and_false, false_and, or_self, Classical.not_not, Int.zero_add, Int.add_zero, lc_0, lc_22, lc_730, lc_902, lc_1074, lc_1447, lc_1824, lc_2081, lc_2135, lc_4258, lc_5723, lr_0, lt_14, ll_14, lr_2, lr_4, lr_5, lr_6, lr_7, lr_8, lt_1820, ll_1820, lr_9, lt_1822, ll_1822, lr_10, lr_11, lr_12, lr_13, lr_22, lt_30, ll_30, lr_1824, lt_1825, ll_1825, lr_2081, lt_2086, ll_2086, lr_2082, lt_2102, ll_2102, lr_2083, lt_2118, ll_2118, lr_2135, lt_2137, ll_2137, lr_4263, lt_4265, ll_4265, lr_5725, lt_5755, ll_5755, lr_5726, lt_5763, ll_5763, lr_5727, lt_5771, ll_5771, lr_5728, lt_6091, ll_6091, lr_5729, lt_6227, ll_6227, lr_5731, lt_6363, ll_6363, lr_5732, lt_6733, ll_6733, lr_5743, lt_7433, ll_7433, lr_5744, lt_7435, ll_7435, lr_5745, lt_7805, ll_7805, lr_5746, lt_7809, ll_7809, lr_5747, lt_8065, ll_8065, lr_5748, lt_8165, ll_8165, lr_5750, lt_8265, ll_8265, lr_5751, lt_8267, ll_8267, lr_5752, lt_8539, ll_8539, lr_5753, lt_9279, ll_9279, lr_731, lt_733, ll_733, lr_732, lt_899, ll_899, lr_903, lt_905, ll_905, lr_904, lt_1071, ll_1071, lr_1074, lt_1086, ll_1086, lr_1082, lt_1088, ll_1088, lr_1088, lt_1090, ll_1090, lr_1089, lt_1098, ll_1098, lr_1083, lt_1106, ll_1106, lr_1106, lt_1108, ll_1108, lr_1107, lt_1116, ll_1116, lr_1084, lt_1124, ll_1124, lr_1124, lt_1126, ll_1126, lr_1125, lt_1134, ll_1134, lr_1085, lt_1142, ll_1142, lr_1142, lt_1147, ll_1147, lr_1143, lt_1207, ll_1207, lr_1144, lt_1267, ll_1267, lr_1145, lt_1327, ll_1327, lr_1146, lt_1387, ll_1387, lr_1447, lt_1459, ll_1459, lr_1455, lt_1461, ll_1461, lr_1461, lt_1463, ll_1463, lr_1462, lt_1471, ll_1471, lr_1456, lt_1479, ll_1479, lr_1479, lt_1481, ll_1481, lr_1480, lt_1489, ll_1489, lr_1457, lt_1497, ll_1497, lr_1497, lt_1499, ll_1499, lr_1498, lt_1507, ll_1507, lr_1458, lt_1515, ll_1515, lr_1515, lt_1520, ll_1520, lr_1516, lt_1580, ll_1580, lr_1517, lt_1640, ll_1640, lr_1518, lt_1700, ll_1700, lr_1519, lt_1760, ll_1760, tg_cls ht, tg_rf0 ht, tg_rf8 ht, tg_rf9 ht, tg_rf10 ht, tg_rf11 ht, tg_t12 ht, tg_l12 ht, tg_t14 ht, tg_l14 ht, tg_r14 ht, tg_t16 ht, tg_l16 ht, tg_r15 ht, tg_t24 ht, tg_l24 ht, tg_t32 ht, tg_l32 ht, tg_r32 ht, tg_t34 ht, tg_l34 ht, tg_r33 ht, tg_t42 ht, tg_l42 ht, tg_t50 ht, tg_l50 ht, tg_r50 ht, tg_t52 ht, tg_l52 ht, tg_r51 ht, tg_t60 ht, tg_l60 ht, tg_t68 ht, tg_l68 ht, tg_r68 ht, tg_t73 ht, tg_l73 ht, tg_r69 ht, tg_t133 ht, tg_l133 ht, tg_r70 ht, tg_t193 ht, tg_l193 ht, tg_r71 ht, tg_t253 ht, tg_l253 ht, tg_r72 ht, tg_t313 ht, tg_l313 ht, eA, eB, eC, eD, eE', eF, eG, eH, e9, e9', hh_upd_same, clamp3_max]
    have yt : y (t + 2) = z 6366 := by rw [kf _ (by omega) (by omega) (by omega) (by omega) (by omega) (by omega)]; exact r1
    have yg : ∀ e, e < 2 → y (t + 12 + e) = z (6363 + e) := fun e he => by rw [kf _ (by omega) (by omega) (by omega) (by omega) (by omega) (by omega)]; exact gx e he
    refine sp_forceOfSide l ht hV hN hg (s := 1) (c := cnt z 1) (by omega) c1b.1.2 c1b.2 (okP2_of v6 v3 v4 h1 (by omega)) (o := o1) (u := uS o0 o1 1) k1 (fun j q1 q2 => kj 1 (by omega) j q1 q2) (by rw [kf _ (by omega) (by omega) (by omega) (by omega) (by omega) (by omega), r3]; exact hg) (fun a q1 q2 => Y a (by omega)) (fun p hp => ?_) (by rw [yt]; exact bch) (fun e he => by rw [yg e he]; have := hgr e he; omega) (G := fgv z o0 g 0 (z 6370, z 6371) (cnt z 0)) kG (fun e y2 he hes p2 g2 k2 => ?_)
    · rw [kf _ (by omega) (by omega) (by omega) (by omega) (by omega) (by omega), ← X _ (by omega)]
      have := (d1 1 (by omega) p (by omega) (by omega)).1
      rw [this]; unfold pV; congr 1; omega
    rw [yt] at hes
    have E1 := eE_of bch (show 1 < 2 by omega) he hes
    have eF1 : (sumF z o1 (uS o0 o1 1) 1 (cnt z 1) * y (t + 12 + e)).tdiv 100 = frc z o0 o1 1 := by rw [yg e he, E1]; rfl
    rw [eF1]
    have Y2 : ∀ a, a ≠ t + 6 → a ≠ t + 7 → ¬ (t + 16 ≤ a ∧ a < t + 68) → y2 a = y a := fun a q1 q2 q3 => k2 a q1 q2 (by omega) (by omega) (by omega)
    refine sp_wearEnd l ht (s := 0) (by omega) (by rw [Y2 _ (by omega) (by omega) (by omega), yt]; exact bch) (fun e he => by rw [Y2 _ (by omega) (by omega) (by omega), yg e he]; have := hgr e he; omega) (by rw [Y2 _ (by omega) (by omega) (by omega), Y _ (by omega), x900]; exact bwe) (fun e3 y3 he3 hes3 w3 k3 => ?_)
    rw [Y2 (t + 2) (by omega) (by omega) (by omega), yt] at hes3
    have E3 := eE_of bch (show 0 < 2 by omega) he3 hes3
    rw [Y2 _ (by omega) (by omega) (by omega), yg e3 he3, Y2 900 (by omega) (by omega) (by omega), Y 900 (by omega), x900] at w3
    refine sp_wearEnd l ht (s := 1) (by omega) (by rw [k3 _ (by omega), Y2 _ (by omega) (by omega) (by omega), yt]; exact bch) (fun e he => ?_) (by rw [k3 _ (by omega), Y2 _ (by omega) (by omega) (by omega), Y _ (by omega), x900]; exact bwe) (fun e4 y4 he4 hes4 w4 k4 => ?_)
    · have := hgr e he
      by_cases c : e = e3
      · rw [c] at this ⊢
        rw [w3]; unfold f_wear; split <;> omega
      · rw [k3 _ (by omega), Y2 _ (by omega) (by omega) (by omega), yg e he]; omega
    rw [k3 (t + 2) (by omega), Y2 (t + 2) (by omega) (by omega) (by omega), yt] at hes4
    have E4 := eE_of bch (show 1 < 2 by omega) he4 hes4
    have ne34 : e4 ≠ e3 := fun c => eE_ne z (by rw [← E3, ← E4, c])
    rw [k3 _ (by omega), Y2 _ (by omega) (by omega) (by omega), yg e4 he4, k3 900 (by omega), Y2 900 (by omega) (by omega) (by omega), Y 900 (by omega), x900] at w4
    have V : ∀ a, a ≠ t + 12 → a ≠ t + 13 → y4 a = y2 a := fun a q1 q2 => by rw [k4 a (by omega), k3 a (by omega)]
    have Vg : ∀ e, e < 2 → y4 (t + 12 + e) = f_wear (z (6363 + e)) (z 6097) (oS o0 o1 (eE z e)) := fun e he => by
      rcases (show e = e3 ∨ e = e4 by omega) with c | c
      · rw [k4 _ (by omega), c, w3, E3, eE_eE z (by omega)]; rfl
      · rw [c, w4, E4, eE_eE z (by omega)]; rfl
    have V3 : y4 (t + 3) = z 6367 := by rw [V _ (by omega) (by omega), Y2 _ (by omega) (by omega) (by omega), kf _ (by omega) (by omega) (by omega) (by omega) (by omega) (by omega)]; exact r2
    have V4 : y4 (t + 4) = g := by rw [V _ (by omega) (by omega), Y2 _ (by omega) (by omega) (by omega), kf _ (by omega) (by omega) (by omega) (by omega) (by omega) (by omega), r3]; exact hg
    have V9 : y4 901 = z 6098 := by rw [V _ (by omega) (by omega), Y2 _ (by omega) (by omega) (by omega), Y _ (by omega)]; exact x901
    rw [V3, V4, V9]
    have eth : z 6367 + clamp3 ((frc z o0 o1 0 - frc z o0 o1 1).tdiv 100) = thF z o0 o1 := rfl
    have thb : -110 ≤ thF z o0 o1 ∧ thF z o0 o1 ≤ 110 := by
      have := clamp3_b ((frc z o0 o1 0 - frc z o0 o1 1).tdiv 100)
      rw [← eth]; omega
    rw [eth]
    have fin : ∀ v5 : Int, v5 = nb (wonF (thF z o0 o1) (z 6098)) → Q (hh_upd (hh_upd (hh_upd (hh_upd (hh_upd (hh_upd y4 (t + 3) (thF z o0 o1)) (t + 193 + g % 60) (frc z o0 o1 0)) (t + 253 + g % 60) (frc z o0 o1 1)) (t + 313 + g % 60) (thF z o0 o1)) (t + 4) ((g : Int) + 1)) (t + 5) v5) := by
      intro v5 hv5
      refine h _ ?_
      have W : ∀ a, a ≠ t + 3 → a ≠ t + 4 → a ≠ t + 5 → a ≠ t + 193 + g % 60 → a ≠ t + 253 + g % 60 → a ≠ t + 313 + g % 60 → hh_upd (hh_upd (hh_upd (hh_upd (hh_upd (hh_upd y4 (t + 3) (thF z o0 o1)) (t + 193 + g % 60) (frc z o0 o1 0)) (t + 253 + g % 60) (frc z o0 o1 1)) (t + 313 + g % 60) (thF z o0 o1)) (t + 4) ((g : Int) + 1)) (t + 5) v5 a = y4 a := fun a q1 q2 q3 q4 q5 q6 => by rw [hh_upd_ne q3, hh_upd_ne q2, hh_upd_ne q6, hh_upd_ne q5, hh_upd_ne q4, hh_upd_ne q1]
      have W3 : hh_upd (hh_upd (hh_upd (hh_upd (hh_upd (hh_upd y4 (t + 3) (thF z o0 o1)) (t + 193 + g % 60) (frc z o0 o1 0)) (t + 253 + g % 60) (frc z o0 o1 1)) (t + 313 + g % 60) (thF z o0 o1)) (t + 4) ((g : Int) + 1)) (t + 5) v5 (t + 3) = thF z o0 o1 := by rw [hh_upd_ne (by omega), hh_upd_ne (by omega), hh_upd_ne (by omega), hh_upd_ne (by omega), hh_upd_ne (by omega), hh_upd_same]
      have W4 : hh_upd (hh_upd (hh_upd (hh_upd (hh_upd (hh_upd y4 (t + 3) (thF z o0 o1)) (t + 193 + g % 60) (frc z o0 o1 0)) (t + 253 + g % 60) (frc z o0 o1 1)) (t + 313 + g % 60) (thF z o0 o1)) (t + 4) ((g : Int) + 1)) (t + 5) v5 (t + 4) = (g : Int) + 1 := by rw [hh_upd_ne (by omega), hh_upd_same]
      have W193 : hh_upd (hh_upd (hh_upd (hh_upd (hh_upd (hh_upd y4 (t + 3) (thF z o0 o1)) (t + 193 + g % 60) (frc z o0 o1 0)) (t + 253 + g % 60) (frc z o0 o1 1)) (t + 313 + g % 60) (thF z o0 o1)) (t + 4) ((g : Int) + 1)) (t + 5) v5 (t + 193 + g % 60) = frc z o0 o1 0 := by rw [hh_upd_ne (by omega), hh_upd_ne (by omega), hh_upd_ne (by omega), hh_upd_ne (by omega), hh_upd_same]
      have W253 : hh_upd (hh_upd (hh_upd (hh_upd (hh_upd (hh_upd y4 (t + 3) (thF z o0 o1)) (t + 193 + g % 60) (frc z o0 o1 0)) (t + 253 + g % 60) (frc z o0 o1 1)) (t + 313 + g % 60) (thF z o0 o1)) (t + 4) ((g : Int) + 1)) (t + 5) v5 (t + 253 + g % 60) = frc z o0 o1 1 := by rw [hh_upd_ne (by omega), hh_upd_ne (by omega), hh_upd_ne (by omega), hh_upd_same]
      have W313 : hh_upd (hh_upd (hh_upd (hh_upd (hh_upd (hh_upd y4 (t + 3) (thF z o0 o1)) (t + 193 + g % 60) (frc z o0 o1 0)) (t + 253 + g % 60) (frc z o0 o1 1)) (t + 313 + g % 60) (thF z o0 o1)) (t + 4) ((g : Int) + 1)) (t + 5) v5 (t + 313 + g % 60) = thF z o0 o1 := by rw [hh_upd_ne (by omega), hh_upd_ne (by omega), hh_upd_same]
      have W5 : hh_upd (hh_upd (hh_upd (hh_upd (hh_upd (hh_upd y4 (t + 3) (thF z o0 o1)) (t + 193 + g % 60) (frc z o0 o1 0)) (t + 253 + g % 60) (frc z o0 o1 1)) (t + 313 + g % 60) (thF z o0 o1)) (t + 4) ((g : Int) + 1)) (t + 5) v5 (t + 5) = v5 := hh_upd_same _ _ _
      generalize hh_upd (hh_upd (hh_upd (hh_upd (hh_upd (hh_upd y4 (t + 3) (thF z o0 o1)) (t + 193 + g % 60) (frc z o0 o1 0)) (t + 253 + g % 60) (frc z o0 o1 1)) (t + 313 + g % 60) (thF z o0 o1)) (t + 4) ((g : Int) + 1)) (t + 5) v5 = w at W W3 W4 W5 W193 W253 W313 ⊢
      have WG : fgv z o1 g 1 (fgv z o0 g 0 (z 6370, z 6371) (cnt z 0)) (cnt z 1) = gvF z o0 o1 := by unfold gvF; rw [hg]
      rw [WG] at g2
      have kf' : ∀ a, ¬ (t ≤ a ∧ a < t + 373) → y2 a = x a := fun a ha => by rw [Y2 a (by omega) (by omega) (by omega)]; exact kf a (by omega) (by omega) (by omega) (by omega) (by omega) (by omega)
      have yk : ∀ a, t + 73 ≤ a → y2 a = y a := fun a ha => Y2 a (by omega) (by omega) (by omega)
      refine ⟨⟨?_, ?_, W3, W4, by rw [W5]; exact hv5, ?_, ?_⟩, fun e he => ?_, fun s hs p hp => ?_, fun q hq => ?_, fun q hq j hj hne => ?_, fun a ha => ?_⟩
      · rw [W _ (by omega) (by omega) (by omega) (by omega) (by omega) (by omega), V _ (by omega) (by omega), Y2 _ (by omega) (by omega) (by omega)]; exact kf _ (by omega) (by omega) (by omega) (by omega) (by omega) (by omega)
      · rw [W _ (by omega) (by omega) (by omega) (by omega) (by omega) (by omega), V _ (by omega) (by omega), Y2 _ (by omega) (by omega) (by omega)]; exact kf _ (by omega) (by omega) (by omega) (by omega) (by omega) (by omega)
      · rw [W _ (by omega) (by omega) (by omega) (by omega) (by omega) (by omega), V _ (by omega) (by omega)]; exact g2.1
      · rw [W _ (by omega) (by omega) (by omega) (by omega) (by omega) (by omega), V _ (by omega) (by omega)]; exact g2.2
      · rw [W _ (by omega) (by omega) (by omega) (by omega) (by omega) (by omega)]; exact Vg e he
      · have cb := cnt_b v6 hs
        have R : ∀ b, b = 16 ∨ b = 34 ∨ b = 52 → w (t + b + 8 * s + p) = y2 (t + b + 8 * s + p) := fun b hb => by
          rw [W _ (by omega) (by omega) (by omega) (by omega) (by omega) (by omega), V _ (by omega) (by omega)]
        rw [R 16 (by omega), R 34 (by omega), R 52 (by omega)]
        rcases (show s = 0 ∨ s = 1 by omega) with rfl | rfl
        · have P := kp p hp
          have R2 : ∀ b, b = 16 ∨ b = 34 ∨ b = 52 → y2 (t + b + 8 * 0 + p) = y (t + b + p) := fun b hb => by
            rw [k2 _ (by omega) (by omega) (by omega) (by omega) (by omega)]; rfl
          rw [R2 16 (by omega), R2 34 (by omega), R2 52 (by omega)]
          exact P
        · exact p2 p hp
      · rcases (show q = 0 ∨ q = 1 ∨ q = 2 ∨ q = 3 ∨ q = 4 by omega) with rfl | rfl | rfl | rfl | rfl
        · rw [W _ (by omega) (by omega) (by omega) (by omega) (by omega) (by omega), V _ (by omega) (by omega), yk _ (by omega)]; exact k0
        · rw [W _ (by omega) (by omega) (by omega) (by omega) (by omega) (by omega), V _ (by omega) (by omega), yk _ (by omega)]; exact k1
        · exact W193
        · exact W253
        · exact W313
      · rw [W _ (by omega) (by omega) (by omega) (by omega) (by omega) (by omega), V _ (by omega) (by omega), yk _ (by omega)]
        rcases (show q < 2 ∨ 2 ≤ q by omega) with c | c
        · exact kj q c j hj hne
        · exact kf _ (by omega) (by omega) (by omega) (by omega) (by omega) (by omega)
      · rw [W _ (by omega) (by omega) (by omega) (by omega) (by omega) (by omega), V _ (by omega) (by omega)]; exact kf' a ha
    have hdv : -40 ≤ (frc z o0 o1 0 - frc z o0 o1 1).tdiv 100 ∧ (frc z o0 o1 0 - frc z o0 o1 1).tdiv 100 ≤ 40 := by
      rcases Int.le_total 0 (frc z o0 o1 0 - frc z o0 o1 1) with c | c
      · rw [Int.tdiv_eq_ediv_of_nonneg c]; omega
      · have e : frc z o0 o1 0 - frc z o0 o1 1 = - (frc z o0 o1 1 - frc z o0 o1 0) := by omega
        rw [e, Int.neg_tdiv, Int.tdiv_eq_ediv_of_nonneg (by omega)]; omega
    (repeat' (first | (with_reducible refine And.intro ?_ ?_) | (with_reducible intro _))) <;> first | exact trivial | omega | exact ⟨by omega, by omega⟩ | exact fin _ (by unfold wonF nb; (repeat' split) <;> omega)
  have tail42 : ∀ (u : Int) (y : hm), u = uS o0 o1 0 → y (t + 73 + g % 60) = o0 → y (t + 133 + g % 60) = o1 → (∀ s, s < 2 → ∀ j, j < 60 → j ≠ g % 60 → y (t + 73 + 60 * s + j) = x (t + 73 + 60 * s + j)) → (∀ a, ¬ (t + 73 ≤ a ∧ a < t + 193) → y a = x a) → hb_X8_goTenth_42 l Q [some (Vr t), some (Vr 730), some (Vi o0), some (Vi o1), some (Vi (g % 60 : Nat)), none, none] [Vi u, Vi 0, Vr 730, Vr t] y := by
    intro u y hu k0 k1 kj kf
    subst hu
    simp only [hb_X8_goTenth_42, hb_X8_goTenth_55, hb_X8_goTenth_59, hc_iconst, hc_lconst, hc_iload, hc_lload, hc_aload, hc_istore, hc_astore, hc_lstore, hc_iinc, hc_dup, hc_dup2, hc_pop, hc_iadd, hc_isub, hc_imul, hc_iaddw, hc_isubw, hc_imulw, hc_inegw, hc_idiv, hc_irem, hc_ineg, hc_b2, hc_b1, hc_i2l, hc_l2i, hc_ladd, hc_l2, hc_lsh, hc_lcmp, hc_if, hc_icmp, hc_jump, hc_getI, hc_getR, hc_putI, hc_putZ, hc_xald, hc_iast, hc_bast, hc_zast, hc_aald, hc_alen, hc_copy, hc_gets, hc_getsI, hc_sald, hc_ldcs, hc_sval, hc_scod, hc_slen, hc_sbald, hc_callI, hc_callL, hc_callV, hc_max, hc_min, hc_abs, hc_ireturn, hc_zreturn, hc_creturn, hc_lreturn, hc_return, hc_none, hc_switch, hv_sw, hv_get, hv_set, hv_set2, hv_mask, hv_fr, hv_noL, hv_pop, hv_pk, hv_isO, hv_isS, hv_any, hv_w, hv_cat, he_nil, he_i, he_r, he_l, hv_repl_0, hv_repl_s, if_true, if_false, and_true, true_and, and_self, Nat.zero_add, Nat.add_zero, Nat.reduceAdd, Nat.reduceLeDiff, List.length_cons, List.length_nil, Int.toNat_natCast, Bool.false_eq_true, reduceIte, Int.toNat_zero, Int.toNat_one, Int.reduceToNat, or_true, true_or, Int.reduceEq, Int.reduceLT, Int.reduceLE, Int.reduceNeg, Int.reduceAdd, Int.reduceSub, Int.reduceMul, Nat.reduceMul, Nat.reduceEqDiff, implies_true, false_implies, true_implies, not_true_eq_false, not_false_eq_true, ne_eq, or_false, false_or, and_false, false_and, or_self, Classical.not_not, Int.zero_add, Int.add_zero, lc_0, lc_22, lc_730, lc_902, lc_1074, lc_1447, lc_1824, lc_2081, lc_2135, lc_4258, lc_5723, lr_0, lt_14, ll_14, lr_2, lr_4, lr_5, lr_6, lr_7, lr_8, lt_1820, ll_1820, lr_9, lt_1822, ll_1822, lr_10, lr_11, lr_12, lr_13, lr_22, lt_30, ll_30, lr_1824, lt_1825, ll_1825, lr_2081, lt_2086, ll_2086, lr_2082, lt_2102, ll_2102, lr_2083, lt_2118, ll_2118, lr_2135, lt_2137, ll_2137, lr_4263, lt_4265, ll_4265, lr_5725, lt_5755, ll_5755, lr_5726, lt_5763, ll_5763, lr_5727, lt_5771, ll_5771, lr_5728, lt_6091, ll_6091, lr_5729, lt_6227, ll_6227, lr_5731, lt_6363, ll_6363, lr_5732, lt_6733, ll_6733, lr_5743, lt_7433, ll_7433, lr_5744, lt_7435, ll_7435, lr_5745, lt_7805, ll_7805, lr_5746, lt_7809, ll_7809, lr_5747, lt_8065, ll_8065, lr_5748, lt_8165, ll_8165, lr_5750, lt_8265, ll_8265, lr_5751, lt_8267, ll_8267, lr_5752, lt_8539, ll_8539, lr_5753, lt_9279, ll_9279, lr_731, lt_733, ll_733, lr_732, lt_899, ll_899, lr_903, lt_905, ll_905, lr_904, lt_1071, ll_1071, lr_1074, lt_1086, ll_1086, lr_1082, lt_1088, ll_1088, lr_1088, lt_1090, ll_1090, lr_1089, lt_1098, ll_1098, lr_1083, lt_1106, ll_1106, lr_1106, lt_1108, ll_1108, lr_1107, lt_1116, ll_1116, lr_1084, lt_1124, ll_1124, lr_1124, lt_1126, ll_1126, lr_1125, lt_1134, ll_1134, lr_1085, lt_1142, ll_1142, lr_1142, lt_1147, ll_1147, lr_1143, lt_1207, ll_1207, lr_1144, lt_1267, ll_1267, lr_1145, lt_1327, ll_1327, lr_1146, lt_1387, ll_1387, lr_1447, lt_1459, ll_1459, lr_1455, lt_1461, ll_1461, lr_1461, lt_1463, ll_1463, lr_1462, lt_1471, ll_1471, lr_1456, lt_1479, ll_1479, lr_1479, lt_1481, ll_1481, lr_1480, lt_1489, ll_1489, lr_1457, lt_1497, ll_1497, lr_1497, lt_1499, ll_1499, lr_1498, lt_1507, ll_1507, lr_1458, lt_1515, ll_1515, lr_1515, lt_1520, ll_1520, lr_1516, lt_1580, ll_1580, lr_1517, lt_1640, ll_1640, lr_1518, lt_1700, ll_1700, lr_1519, lt_1760, ll_1760, tg_cls ht, tg_rf0 ht, tg_rf8 ht, tg_rf9 ht, tg_rf10 ht, tg_rf11 ht, tg_t12 ht, tg_l12 ht, tg_t14 ht, tg_l14 ht, tg_r14 ht, tg_t16 ht, tg_l16 ht, tg_r15 ht, tg_t24 ht, tg_l24 ht, tg_t32 ht, tg_l32 ht, tg_r32 ht, tg_t34 ht, tg_l34 ht, tg_r33 ht, tg_t42 ht, tg_l42 ht, tg_t50 ht, tg_l50 ht, tg_r50 ht, tg_t52 ht, tg_l52 ht, tg_r51 ht, tg_t60 ht, tg_l60 ht, tg_t68 ht, tg_l68 ht, tg_r68 ht, tg_t73 ht, tg_l73 ht, tg_r69 ht, tg_t133 ht, tg_l133 ht, tg_r70 ht, tg_t193 ht, tg_l193 ht, tg_r71 ht, tg_t253 ht, tg_l253 ht, tg_r72 ht, tg_t313 ht, tg_l313 ht]
    have yg : ∀ e, e < 2 → y (t + 12 + e) = z (6363 + e) := fun e he => by rw [kf _ (by omega)]; exact gx e he
    have yt : y (t + 2) = z 6366 := by rw [kf _ (by omega)]; exact r1
    refine sp_forceOfSide l ht hV hN hg (s := 0) (c := cnt z 0) (by omega) c0b.1.2 c0b.2 (okP2_of v6 v3 v4 h0 (by omega)) (o := o0) (u := uS o0 o1 0) k0 (fun j q1 q2 => kj 0 (by omega) j q1 q2) (by rw [kf _ (by omega), r3]; exact hg) (fun a q1 q2 => kf a (by omega)) (fun p hp => ?_) (by rw [yt]; exact bch) (fun e he => by rw [yg e he]; have := hgr e he; omega) (G := (z 6370, z 6371)) ⟨by rw [kf _ (by omega)]; exact r5, by rw [kf _ (by omega)]; exact r6⟩ (fun e y2 he hes p2 g2 k2 => ?_)
    · rw [kf _ (by omega), ← X _ (by omega)]
      have := (d1 0 (by omega) p (by omega) (by omega)).1
      rw [this]; unfold pV; congr 1; omega
    rw [yt] at hes
    have E1 := eE_of bch (show 0 < 2 by omega) he hes
    have eF1 : (sumF z o0 (uS o0 o1 0) 0 (cnt z 0) * y (t + 12 + e)).tdiv 100 = frc z o0 o1 0 := by rw [yg e he, E1]; rfl
    rw [eF1]
    have nx : ∀ u, u = uS o0 o1 1 → hb_X8_goTenth_60 l Q [some (Vr t), some (Vr 730), some (Vi o0), some (Vi o1), some (Vi (g % 60 : Nat)), some (Vi (frc z o0 o1 0)), none] [Vi u, Vi 1, Vr 730, Vr t] y2 := fun u hu => by
      refine tail60 u y2 hu (by rw [k2 _ (by omega) (by omega) (by omega) (by omega) (by omega)]; exact k0) (by rw [k2 _ (by omega) (by omega) (by omega) (by omega) (by omega)]; exact k1) (fun s hs j q1 q2 => by rw [k2 _ (by omega) (by omega) (by omega) (by omega) (by omega)]; exact kj s hs j q1 q2) p2 g2 (fun a q1 q2 q3 q4 q5 q6 => by rw [k2 a q1 q2 (by omega) (by omega) (by omega)]; exact kf a q6)
    exact ⟨fun c => nx 0 (by rw [uS_1, if_neg c]), fun c => nx 1 (by rw [uS_1, if_pos c])⟩
  refine hr_X8_goTenth l (Nat.le_of_ble_eq_true rfl) ?_
  simp only [hb_X8_goTenth_0, hb_X8_goTenth_37, hb_X8_goTenth_41, hc_iconst, hc_lconst, hc_iload, hc_lload, hc_aload, hc_istore, hc_astore, hc_lstore, hc_iinc, hc_dup, hc_dup2, hc_pop, hc_iadd, hc_isub, hc_imul, hc_iaddw, hc_isubw, hc_imulw, hc_inegw, hc_idiv, hc_irem, hc_ineg, hc_b2, hc_b1, hc_i2l, hc_l2i, hc_ladd, hc_l2, hc_lsh, hc_lcmp, hc_if, hc_icmp, hc_jump, hc_getI, hc_getR, hc_putI, hc_putZ, hc_xald, hc_iast, hc_bast, hc_zast, hc_aald, hc_alen, hc_copy, hc_gets, hc_getsI, hc_sald, hc_ldcs, hc_sval, hc_scod, hc_slen, hc_sbald, hc_callI, hc_callL, hc_callV, hc_max, hc_min, hc_abs, hc_ireturn, hc_zreturn, hc_creturn, hc_lreturn, hc_return, hc_none, hc_switch, hv_sw, hv_get, hv_set, hv_set2, hv_mask, hv_fr, hv_noL, hv_pop, hv_pk, hv_isO, hv_isS, hv_any, hv_w, hv_cat, he_nil, he_i, he_r, he_l, hv_repl_0, hv_repl_s, if_true, if_false, and_true, true_and, and_self, Nat.zero_add, Nat.add_zero, Nat.reduceAdd, Nat.reduceLeDiff, List.length_cons, List.length_nil, Int.toNat_natCast, Bool.false_eq_true, reduceIte, Int.toNat_zero, Int.toNat_one, Int.reduceToNat, or_true, true_or, Int.reduceEq, Int.reduceLT, Int.reduceLE, Int.reduceNeg, Int.reduceAdd, Int.reduceSub, Int.reduceMul, Nat.reduceMul, Nat.reduceEqDiff, implies_true, false_implies, true_implies, not_true_eq_false, not_false_eq_true, ne_eq, or_false, false_or, and_false, false_and, or_self, Classical.not_not, Int.zero_add, Int.add_zero, lc_0, lc_22, lc_730, lc_902, lc_1074, lc_1447, lc_1824, lc_2081, lc_2135, lc_4258, lc_5723, lr_0, lt_14, ll_14, lr_2, lr_4, lr_5, lr_6, lr_7, lr_8, lt_1820, ll_1820, lr_9, lt_1822, ll_1822, lr_10, lr_11, lr_12, lr_13, lr_22, lt_30, ll_30, lr_1824, lt_1825, ll_1825, lr_2081, lt_2086, ll_2086, lr_2082, lt_2102, ll_2102, lr_2083, lt_2118, ll_2118, lr_2135, lt_2137, ll_2137, lr_4263, lt_4265, ll_4265, lr_5725, lt_5755, ll_5755, lr_5726, lt_5763, ll_5763, lr_5727, lt_5771, ll_5771, lr_5728, lt_6091, ll_6091, lr_5729, lt_6227, ll_6227, lr_5731, lt_6363, ll_6363, lr_5732, lt_6733, ll_6733, lr_5743, lt_7433, ll_7433, lr_5744, lt_7435, ll_7435, lr_5745, lt_7805, ll_7805, lr_5746, lt_7809, ll_7809, lr_5747, lt_8065, ll_8065, lr_5748, lt_8165, ll_8165, lr_5750, lt_8265, ll_8265, lr_5751, lt_8267, ll_8267, lr_5752, lt_8539, ll_8539, lr_5753, lt_9279, ll_9279, lr_731, lt_733, ll_733, lr_732, lt_899, ll_899, lr_903, lt_905, ll_905, lr_904, lt_1071, ll_1071, lr_1074, lt_1086, ll_1086, lr_1082, lt_1088, ll_1088, lr_1088, lt_1090, ll_1090, lr_1089, lt_1098, ll_1098, lr_1083, lt_1106, ll_1106, lr_1106, lt_1108, ll_1108, lr_1107, lt_1116, ll_1116, lr_1084, lt_1124, ll_1124, lr_1124, lt_1126, ll_1126, lr_1125, lt_1134, ll_1134, lr_1085, lt_1142, ll_1142, lr_1142, lt_1147, ll_1147, lr_1143, lt_1207, ll_1207, lr_1144, lt_1267, ll_1267, lr_1145, lt_1327, ll_1327, lr_1146, lt_1387, ll_1387, lr_1447, lt_1459, ll_1459, lr_1455, lt_1461, ll_1461, lr_1461, lt_1463, ll_1463, lr_1462, lt_1471, ll_1471, lr_1456, lt_1479, ll_1479, lr_1479, lt_1481, ll_1481, lr_1480, lt_1489, ll_1489, lr_1457, lt_1497, ll_1497, lr_1497, lt_1499, ll_1499, lr_1498, lt_1507, ll_1507, lr_1458, lt_1515, ll_1515, lr_1515, lt_1520, ll_1520, lr_1516, lt_1580, ll_1580, lr_1517, lt_1640, ll_1640, lr_1518, lt_1700, ll_1700, lr_1519, lt_1760, ll_1760, tg_cls ht, tg_rf0 ht, tg_rf8 ht, tg_rf9 ht, tg_rf10 ht, tg_rf11 ht, tg_t12 ht, tg_l12 ht, tg_t14 ht, tg_l14 ht, tg_r14 ht, tg_t16 ht, tg_l16 ht, tg_r15 ht, tg_t24 ht, tg_l24 ht, tg_t32 ht, tg_l32 ht, tg_r32 ht, tg_t34 ht, tg_l34 ht, tg_r33 ht, tg_t42 ht, tg_l42 ht, tg_t50 ht, tg_l50 ht, tg_r50 ht, tg_t52 ht, tg_l52 ht, tg_r51 ht, tg_t60 ht, tg_l60 ht, tg_t68 ht, tg_l68 ht, tg_r68 ht, tg_t73 ht, tg_l73 ht, tg_r69 ht, tg_t133 ht, tg_l133 ht, tg_r70 ht, tg_t193 ht, tg_l193 ht, tg_r71 ht, tg_t253 ht, tg_l253 ht, tg_r72 ht, tg_t313 ht, tg_l313 ht]
  rw [r3, hg, em, Int.toNat_natCast]
  have nx : ∀ u, u = uS o0 o1 0 → hb_X8_goTenth_42 l Q [some (Vr t), some (Vr 730), some (Vi o0), some (Vi o1), some (Vi (g % 60 : Nat)), none, none] [Vi u, Vi 0, Vr 730, Vr t] (hh_upd (hh_upd x (t + 73 + g % 60) o0) (t + 133 + g % 60) o1) := fun u hu => by
    refine tail42 u _ hu (by rw [hh_upd_ne (by omega), hh_upd_same]) (hh_upd_same _ _ _) (fun s hs j q1 q2 => by rw [hh_upd_ne (by omega), hh_upd_ne (by omega)]) (fun a ha => by rw [hh_upd_ne (by omega), hh_upd_ne (by omega)])
  have n0 : ¬ o1 = 1 → _ := fun c => nx 0 (by rw [uS_0, if_neg c])
  have n1 : o1 = 1 → _ := fun c => nx 1 (by rw [uS_0, if_pos c])
  (repeat' (with_reducible refine And.intro ?_ ?_)) <;> first | exact n0 | exact n1 | exact trivial | omega | exact ⟨by omega, by omega⟩
