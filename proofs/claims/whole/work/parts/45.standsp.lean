/-! stands, both -/
theorem I5.okS {x : hm} (h : I5 x) {k : Nat} (hk : k < 2) : 0 ≤ x (6091 + k) ∧ x (6091 + k) ≤ 8 ∧ okS x k (x (6091 + k)).toNat := by
  have hcn := h.cnt hk
  have hT := h.okT hk
  refine ⟨by omega, by omega, hk, by omega, by rw [hcn.1.1]; omega, fun p q hp hq => RM.tr h.2.2 hk (by omega) (by omega) hq, fun p hp => ?_⟩
  have t := hT.2.2 p hp
  refine ⟨?_, t.2.1⟩
  rcases h.2.1 with ⟨-, z⟩ | ⟨-, o⟩
  · have := z k (by omega)
    rw [this] at hp
    exact absurd hp (Nat.not_lt_zero _)
  · have := ((o.1 k hk).2.1 p (by omega) (by omega)).1
    unfold tw
    rw [show 6091 + (8 + 40 * k + 5 * p + 0) = 6091 + 8 + 40 * k + 5 * p by omega]
    omega
theorem F_stands_eq {W : Nat → Nat → Int} {c : Nat} (hc : c ≤ 8) (hc1 : 1 ≤ c) (hW : okW W c) {T U : Nat → Int} (h : okF W c T 0) (h' : okF W c U 0) {place : Int} (hp : -1 ≤ place) : F_stands W c T place = F_stands W c U place := by
  have hpow := pow_b hc
  have e : ∀ u, u < 2 ^ c → T u = U u := fun u hu => okF_eq hc h h' (2 ^ c - 1 - u) u (by omega)
  have ep : ∀ j, j ≤ c → pth W T c j = pth W U c j := by
    intro j
    induction j with
    | zero => intro _; rfl
    | succ j ih =>
      intro hj
      have ihj := ih (by omega)
      have hb := pth_b hc hW h j (by omega)
      show pth W T c j + 2 ^ (mxp W T (pth W T c j) c).toNat = pth W U c j + 2 ^ (mxp W U (pth W U c j) c).toNat
      rw [← ihj, (mxp_eq hc e hb.1 c (Nat.le_refl _)).1]
  unfold F_stands
  by_cases c1 : place < 0
  · rw [if_pos c1, if_pos c1, e 0 (by omega)]
  · rw [if_neg c1, if_neg c1]
    by_cases c2 : (c : Int) ≤ place
    · rw [if_pos c2, if_pos c2]
    · rw [if_neg c2, if_neg c2, ← ep place.toNat (by omega)]
      exact (mxp_eq hc e (pth_b hc hW h place.toNat (by omega)).1 c (Nat.le_refl _)).1
theorem pr_stands (l : Launch) {n : Nat} {x : hm} (hI : IV n x) {s place : Int} (hpl : hv_I place) : hm_I l m_X9_stands 5 [Vr 0, Vi s, Vi place] x (fun r x1 => hm_I l m_X10_stands 3 [Vr 5723, Vi s, Vi place] x1 (fun r2 x2 => r = r2 ∧ IV (n + 1) x2)) := by
  obtain ⟨j1, j2, j3, j4, j5, j6, j7, j8, j9, j10⟩ := hI
  have mo : ∀ (r : Int) (y : hm), fP x y → (¬ ((0 ≤ s ∧ s < 2 ∧ x (6091 + s.toNat) ≠ 0) ∧ -1 ≤ place) → r = -1000001) → (∀ (k c : Nat), s = k → k < 2 → -1 ≤ place → x (6091 + k) = c → 1 ≤ c → ∀ U : Nat → Int, okF (Wt x k c) c U 0 → r = F_stands (Wt x k c) c U place) → hm_I l m_X10_stands 3 [Vr 5723, Vi s, Vi place] y (fun r2 x2 => r = r2 ∧ IV (n + 1) x2) := by
    intro r y hy h1 h2
    have yk : ∀ a, 2081 ≤ a → y a = x a := fun a ha => hy a (by omega)
    have fin : ∀ v, fB y v → IV (n + 1) v := fun v hv => by
      have F : ∀ a, (a ≠ 5723 ∧ ¬ (7809 ≤ a ∧ a < 8065)) ∧ ¬ (1825 ≤ a ∧ a < 2081) → v a = x a := fun a ha => by rw [hv a ha.1.1 ha.1.2]; exact hy a ha.2
      exact ⟨(I1_congr (fun a ha => F a (by omega)) j1), (I2_congr (fun a ha => F a (by omega)) j2), (I3_congr (fun a ha => F a (by omega)) j3), (I4_congr (fun a ha => F a (by omega)) j4), (I5_congr (fun a ha => F a (by omega)) j5), (I6_congr (by omega) (fun a ha => F a (by omega)) j6), (I7_congr (by omega) (fun a ha => F a (by omega)) j7), (I8_congr (fun a ha => F a (by omega)) j8), (I9_congr (fun a ha => F a (by omega)) j9), (I10_congr (fun a ha => F a (by omega)) j10)⟩
    have J5 : I5 y := by
      have F : ∀ a, ¬ (1825 ≤ a ∧ a < 2081) → y a = x a := hy
      exact (I5_congr (fun a ha => F a (by omega)) j5)
    have ew : ∀ k c, Wt y k c = Wt x k c := fun k c => by
      funext n p
      unfold Wt tw
      rw [yk _ (by omega), yk _ (by omega)]
    refine mo_stands l (fun k hk => J5.okS hk) hpl (fun g v hv => ⟨h1 (fun c => g (by rw [yk _ (by omega)]; exact c)), fin v hv⟩) (fun k c e1 hk pl hcc hc1 v hv hF => ⟨?_, fin v hv⟩)
    rw [yk _ (by omega)] at hcc
    rw [ew] at hF ⊢
    exact h2 k c e1 hk pl hcc hc1 _ hF
  refine hr_X9_stands l (Nat.le_of_ble_eq_true rfl) ?_
  simp only [hb_X9_stands_23, hb_X9_stands_80, hb_X9_stands_71, hb_X9_stands_59, hb_X9_stands_47, hb_X9_stands_44, hb_X9_stands_26, hb_X9_stands_13, hb_X9_stands_8, hb_X9_stands_0, hc_iconst, hc_lconst, hc_iload, hc_lload, hc_aload, hc_istore, hc_astore, hc_lstore, hc_iinc, hc_dup, hc_dup2, hc_pop, hc_iadd, hc_isub, hc_imul, hc_iaddw, hc_isubw, hc_imulw, hc_inegw, hc_idiv, hc_irem, hc_ineg, hc_b2, hc_b1, hc_i2l, hc_l2i, hc_ladd, hc_l2, hc_lsh, hc_lcmp, hc_if, hc_icmp, hc_jump, hc_getI, hc_getR, hc_putI, hc_putZ, hc_xald, hc_iast, hc_bast, hc_zast, hc_aald, hc_alen, hc_copy, hc_gets, hc_getsI, hc_sald, hc_ldcs, hc_sval, hc_scod, hc_slen, hc_sbald, hc_callI, hc_callL, hc_callV, hc_max, hc_min, hc_abs, hc_ireturn, hc_zreturn, hc_creturn, hc_lreturn, hc_return, hc_none, hc_switch, hv_sw, hv_get, hv_set, hv_set2, hv_mask, hv_fr, hv_noL, hv_pop, hv_pk, hv_isO, hv_isS, hv_any, hv_w, hv_cat, he_nil, he_i, he_r, he_l, hv_repl_0, hv_repl_s, if_true, if_false, and_true, true_and, and_self, Nat.zero_add, Nat.add_zero, Nat.reduceAdd, Nat.reduceLeDiff, List.length_cons, List.length_nil, Int.toNat_natCast, Bool.false_eq_true, reduceIte, Int.toNat_zero, Int.toNat_one, Int.reduceToNat, or_true, true_or, Int.reduceEq, Int.reduceLT, Int.reduceLE, Int.reduceNeg, Int.reduceAdd, Int.reduceSub, Int.reduceMul, Nat.reduceMul, Nat.reduceEqDiff, implies_true, false_implies, true_implies, not_true_eq_false, not_false_eq_true, ne_eq, or_false, false_or, and_false, false_and, or_self, Classical.not_not, Int.zero_add, Int.add_zero, lc_0, lc_22, lc_730, lc_902, lc_1074, lc_1447, lc_1824, lc_2081, lc_2135, lc_4258, lc_5723, lr_0, lt_14, ll_14, lr_2, lr_4, lr_5, lr_6, lr_7, lr_8, lt_1820, ll_1820, lr_9, lt_1822, ll_1822, lr_10, lr_11, lr_12, lr_13, lr_22, lt_30, ll_30, lr_1824, lt_1825, ll_1825, lr_2081, lt_2086, ll_2086, lr_2082, lt_2102, ll_2102, lr_2083, lt_2118, ll_2118, lr_2135, lt_2137, ll_2137, lr_4263, lt_4265, ll_4265, lr_5725, lt_5755, ll_5755, lr_5726, lt_5763, ll_5763, lr_5727, lt_5771, ll_5771, lr_5728, lt_6091, ll_6091, lr_5729, lt_6227, ll_6227, lr_5731, lt_6363, ll_6363, lr_5732, lt_6733, ll_6733, lr_5743, lt_7433, ll_7433, lr_5744, lt_7435, ll_7435, lr_5745, lt_7805, ll_7805, lr_5746, lt_7809, ll_7809, lr_5747, lt_8065, ll_8065, lr_5748, lt_8165, ll_8165, lr_5750, lt_8265, ll_8265, lr_5751, lt_8267, ll_8267, lr_5752, lt_8539, ll_8539, lr_5753, lt_9279, ll_9279, lr_731, lt_733, ll_733, lr_732, lt_899, ll_899, lr_903, lt_905, ll_905, lr_904, lt_1071, ll_1071, lr_1074, lt_1086, ll_1086, lr_1082, lt_1088, ll_1088, lr_1088, lt_1090, ll_1090, lr_1089, lt_1098, ll_1098, lr_1083, lt_1106, ll_1106, lr_1106, lt_1108, ll_1108, lr_1107, lt_1116, ll_1116, lr_1084, lt_1124, ll_1124, lr_1124, lt_1126, ll_1126, lr_1125, lt_1134, ll_1134, lr_1085, lt_1142, ll_1142, lr_1142, lt_1147, ll_1147, lr_1143, lt_1207, ll_1207, lr_1144, lt_1267, ll_1267, lr_1145, lt_1327, ll_1327, lr_1146, lt_1387, ll_1387, lr_1447, lt_1459, ll_1459, lr_1455, lt_1461, ll_1461, lr_1461, lt_1463, ll_1463, lr_1462, lt_1471, ll_1471, lr_1456, lt_1479, ll_1479, lr_1479, lt_1481, ll_1481, lr_1480, lt_1489, ll_1489, lr_1457, lt_1497, ll_1497, lr_1497, lt_1499, ll_1499, lr_1498, lt_1507, ll_1507, lr_1458, lt_1515, ll_1515, lr_1515, lt_1520, ll_1520, lr_1516, lt_1580, ll_1580, lr_1517, lt_1640, ll_1640, lr_1518, lt_1700, ll_1700, lr_1519, lt_1760, ll_1760]
  refine sp_within_a l (fun g1 g2 => ?_) (fun g => mo _ x (fun _ _ => rfl) (fun _ => rfl) (fun k c e1 hk _ _ _ => absurd ⟨by omega, by omega⟩ g))
  obtain ⟨k, rfl⟩ := Int.eq_ofNat_of_zero_le g1
  have hk : k < 2 := by omega
  have hd := is_side730 hk
  have hst := j5.st hk
  have hcn := j5.cnt hk
  have hSS := j5.okS hk
  have nost : x 730 = 0 → hm_I l m_X10_stands 3 [Vr 5723, Vi k, Vi place] x (fun r2 x2 => -1000001 = r2 ∧ IV (n + 1) x2) := fun c1 => by
    refine mo _ x (fun _ _ => rfl) (fun _ => rfl) (fun k2 c e1 hk2 pl h1 h2 U hU => ?_)
    have : k2 = k := by omega
    subst this
    omega
  refine ⟨fun g3 => mo _ x (fun _ _ => rfl) (fun _ => rfl) (fun k c e1 hk pl _ _ => by omega), fun g3 => ⟨fun c1 => ?_, nost⟩⟩
  obtain ⟨c, hcc⟩ := Int.eq_ofNat_of_zero_le hSS.1
  have hS : okS x k c := by have := hSS.2.2; rw [hcc] at this; exact this
  have hc8 : c ≤ 8 := hS.2.1
  have hW := Wt_b hS
  have good : (0 ≤ (k : Int) ∧ (k : Int) < 2 ∧ x (6091 + (k : Int).toNat) ≠ 0) ∧ -1 ≤ place := ⟨⟨by omega, by omega, by rw [Int.toNat_natCast]; omega⟩, by omega⟩
  have fin : ∀ (r : Int) (y : hm), fP x y → (∀ U : Nat → Int, okF (Wt x k c) c U 0 → r = F_stands (Wt x k c) c U place) → hm_I l m_X10_stands 3 [Vr 5723, Vi k, Vi place] y (fun r2 x2 => r = r2 ∧ IV (n + 1) x2) := fun r y hy h2 => mo r y hy (fun g => absurd good g) (fun k2 c2 e1 hk2 pl h1 h1' U hU => by
    have : k2 = k := by omega
    subst this
    have : c2 = c := by omega
    subst this
    exact h2 U hU)
  rw [Int.toNat_natCast, lr_m733 hk]
  simp only [sd_cls hd, true_and]
  rw [hcn.1.1, hcc]
  refine ⟨⟨by omega, by omega⟩, fun g4 => ?_, fun g4 => ?_⟩
  · refine sp_weigh l hS (fun _ _ => rfl) (by omega) (fun v hv hF => ?_)
    refine ⟨fun p0 => ?_, fun p0 => ?_⟩
    · obtain ⟨p, rfl⟩ := Int.eq_ofNat_of_zero_le p0
      refine sp_pullerAt l hS hv hF (by omega) (fin _ v hv (fun U hU => ?_))
      rw [← F_stands_eq hc8 (by omega) hW hF hU (by omega)]
      unfold F_stands
      rw [if_neg (by omega), if_neg (by omega), Int.toNat_natCast]
    · refine ⟨by decide, fin _ v hv (fun U hU => ?_)⟩
      rw [← F_stands_eq hc8 (by omega) hW hF hU (by omega)]
      unfold F_stands
      rw [if_pos (by omega)]
  · refine fin _ x (fun _ _ => rfl) (fun U hU => ?_)
    unfold F_stands
    rw [if_neg (by omega), if_pos (by omega)]
