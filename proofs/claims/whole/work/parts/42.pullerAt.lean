theorem mx_congr {W : Nat → Nat → Int} {c : Nat} {T U : Nat → Int} {s : Nat} (e : ∀ p, p < c → hs s p = 0 → T (s + 2 ^ p) = U (s + 2 ^ p)) : ∀ p, p ≤ c → mxp W T s p = mxp W U s p ∧ mxv W T s p = mxv W U s p := by
  intro p
  induction p with
  | zero => intro _; exact ⟨rfl, rfl⟩
  | succ p ihp =>
    intro hp
    have ih := ihp (by omega)
    rw [mxp_s, mxp_s, mxv_s, mxv_s]
    rw [ih.1, ih.2]
    by_cases c1 : hs s p = 1
    · rw [if_pos c1, if_pos c1, if_pos c1, if_pos c1]; exact ⟨rfl, rfl⟩
    · have c0 : hs s p = 0 := by have := hs_b s p; omega
      have : vl W T s p = vl W U s p := by unfold vl; rw [e p (by omega) c0]
      rw [this]
      exact ⟨rfl, rfl⟩
/-- one set more is right -/
theorem okF_step {W : Nat → Nat → Int} {c : Nat} (hc : c ≤ 8) {T U : Nat → Int} {k : Nat} (h : okF W c T (k + 1)) (hk : k < 2 ^ c - 1) (he : ∀ u, u ≠ k → u < 2 ^ c → U u = T u) (hv : U k = mxv W T k c) : okF W c U k := by
  have hpow := pow_b hc
  refine ⟨by rw [he _ (by omega) (by omega)]; exact h.1, fun u h1 h2 => ?_⟩
  have cg : ∀ u, k ≤ u → u < 2 ^ c - 1 → mxv W T u c = mxv W U u c := fun u h1 h2 => (mx_congr (fun p hp hp0 => by
    have hpp : 1 ≤ 2 ^ p := Nat.one_le_two_pow
    exact (he _ (by omega) (b_in c hc u (by omega) p hp hp0)).symm) c (Nat.le_refl _)).2
  by_cases e : u = k
  · subst e; rw [hv]; exact cg u h1 h2
  · rw [he u e (by omega), h.2 u (by omega) h2]; exact cg u h1 h2
theorem sp_weigh (l : Launch) {x y : hm} {sd c : Nat} (hS : okS x sd c) (hf : fP x y) (hc1 : 1 ≤ c) {Q : hm → Prop} (h : ∀ v : hm, fP x v → okF (Wt x sd c) c (fun u => v (1825 + u)) 0 → Q v) : hm_V l m_X4_weigh 4 [Vr 1824, Vr (735 + 82 * sd)] y Q := by
  have hS' := hS
  obtain ⟨h1, h2, h3, h4, h5⟩ := hS'
  have hd := is_side730 h1
  have hpow := pow_b h2
  have hpow1 : 2 ≤ 2 ^ c := by
    have : ∀ c, c ≤ 8 → 1 ≤ c → 2 ≤ 2 ^ c := by decide
    exact this c h2 hc1
  have ec : y (735 + 82 * sd) = c := by rw [hf _ (by omega)]; exact h3
  have hW := Wt_b hS
  refine hr_X4_weigh l (Nat.le_of_ble_eq_true rfl) ?_
  intro At h20
  simp only [hb_X4_weigh_48, hb_X4_weigh_24, hb_X4_weigh_20, hb_X4_weigh_0, hc_iconst, hc_lconst, hc_iload, hc_lload, hc_aload, hc_istore, hc_astore, hc_lstore, hc_iinc, hc_dup, hc_dup2, hc_pop, hc_iadd, hc_isub, hc_imul, hc_iaddw, hc_isubw, hc_imulw, hc_inegw, hc_idiv, hc_irem, hc_ineg, hc_b2, hc_b1, hc_i2l, hc_l2i, hc_ladd, hc_l2, hc_lsh, hc_lcmp, hc_if, hc_icmp, hc_jump, hc_getI, hc_getR, hc_putI, hc_putZ, hc_xald, hc_iast, hc_bast, hc_zast, hc_aald, hc_alen, hc_copy, hc_gets, hc_getsI, hc_sald, hc_ldcs, hc_sval, hc_scod, hc_slen, hc_sbald, hc_callI, hc_callL, hc_callV, hc_max, hc_min, hc_abs, hc_ireturn, hc_zreturn, hc_creturn, hc_lreturn, hc_return, hc_none, hc_switch, hv_sw, hv_get, hv_set, hv_set2, hv_mask, hv_fr, hv_noL, hv_pop, hv_pk, hv_isO, hv_isS, hv_any, hv_w, hv_cat, he_nil, he_i, he_r, he_l, hv_repl_0, hv_repl_s, if_true, if_false, and_true, true_and, and_self, Nat.zero_add, Nat.add_zero, Nat.reduceAdd, Nat.reduceLeDiff, List.length_cons, List.length_nil, Int.toNat_natCast, Bool.false_eq_true, reduceIte, Int.toNat_zero, Int.toNat_one, Int.reduceToNat, or_true, true_or, Int.reduceEq, Int.reduceLT, Int.reduceLE, Int.reduceNeg, Int.reduceAdd, Int.reduceSub, Int.reduceMul, Nat.reduceMul, Nat.reduceEqDiff, implies_true, false_implies, true_implies, not_true_eq_false, not_false_eq_true, ne_eq, or_false, false_or, and_false, false_and, or_self, Classical.not_not, Int.zero_add, Int.add_zero, lc_0, lc_22, lc_730, lc_902, lc_1074, lc_1447, lc_1824, lc_2081, lc_2135, lc_4258, lc_5723, lr_0, lt_14, ll_14, lr_2, lr_4, lr_5, lr_6, lr_7, lr_8, lt_1820, ll_1820, lr_9, lt_1822, ll_1822, lr_10, lr_11, lr_12, lr_13, lr_22, lt_30, ll_30, lr_1824, lt_1825, ll_1825, lr_2081, lt_2086, ll_2086, lr_2082, lt_2102, ll_2102, lr_2083, lt_2118, ll_2118, lr_2135, lt_2137, ll_2137, lr_4263, lt_4265, ll_4265, lr_5725, lt_5755, ll_5755, lr_5726, lt_5763, ll_5763, lr_5727, lt_5771, ll_5771, lr_5728, lt_6091, ll_6091, lr_5729, lt_6227, ll_6227, lr_5731, lt_6363, ll_6363, lr_5732, lt_6733, ll_6733, lr_5743, lt_7433, ll_7433, lr_5744, lt_7435, ll_7435, lr_5745, lt_7805, ll_7805, lr_5746, lt_7809, ll_7809, lr_5747, lt_8065, ll_8065, lr_5748, lt_8165, ll_8165, lr_5750, lt_8265, ll_8265, lr_5751, lt_8267, ll_8267, lr_5752, lt_8539, ll_8539, lr_5753, lt_9279, ll_9279, lr_731, lt_733, ll_733, lr_732, lt_899, ll_899, lr_903, lt_905, ll_905, lr_904, lt_1071, ll_1071, lr_1074, lt_1086, ll_1086, lr_1082, lt_1088, ll_1088, lr_1088, lt_1090, ll_1090, lr_1089, lt_1098, ll_1098, lr_1083, lt_1106, ll_1106, lr_1106, lt_1108, ll_1108, lr_1107, lt_1116, ll_1116, lr_1084, lt_1124, ll_1124, lr_1124, lt_1126, ll_1126, lr_1125, lt_1134, ll_1134, lr_1085, lt_1142, ll_1142, lr_1142, lt_1147, ll_1147, lr_1143, lt_1207, ll_1207, lr_1144, lt_1267, ll_1267, lr_1145, lt_1327, ll_1327, lr_1146, lt_1387, ll_1387, lr_1447, lt_1459, ll_1459, lr_1455, lt_1461, ll_1461, lr_1461, lt_1463, ll_1463, lr_1462, lt_1471, ll_1471, lr_1456, lt_1479, ll_1479, lr_1479, lt_1481, ll_1481, lr_1480, lt_1489, ll_1489, lr_1457, lt_1497, ll_1497, lr_1497, lt_1499, ll_1499, lr_1498, lt_1507, ll_1507, lr_1458, lt_1515, ll_1515, lr_1515, lt_1520, ll_1520, lr_1516, lt_1580, ll_1580, lr_1517, lt_1640, ll_1640, lr_1518, lt_1700, ll_1700, lr_1519, lt_1760, ll_1760]
  simp only [sd_cls hd, true_and, ec, b_full c h2]
  have main : ∀ q : Nat × hm, (q.1 ≤ 2 ^ c - 1 ∧ fP x q.2 ∧ okF (Wt x sd c) c (fun u => q.2 (1825 + u)) q.1) → At 20 [some (Vr 1824), some (Vr (735 + 82 * sd)), none, some (Vi ((q.1 : Int) - 1))] [] q.2 := by
    refine lp_m (fun q : Nat × hm => q.1) ?_
    rintro ⟨k, v⟩ ⟨a1, a2, a3⟩ ih
    dsimp only at a1 a2 a3
    refine h20 _ _ _ ?_
    simp only [hb_X4_weigh_48, hb_X4_weigh_24, hb_X4_weigh_20, hb_X4_weigh_0, hc_iconst, hc_lconst, hc_iload, hc_lload, hc_aload, hc_istore, hc_astore, hc_lstore, hc_iinc, hc_dup, hc_dup2, hc_pop, hc_iadd, hc_isub, hc_imul, hc_iaddw, hc_isubw, hc_imulw, hc_inegw, hc_idiv, hc_irem, hc_ineg, hc_b2, hc_b1, hc_i2l, hc_l2i, hc_ladd, hc_l2, hc_lsh, hc_lcmp, hc_if, hc_icmp, hc_jump, hc_getI, hc_getR, hc_putI, hc_putZ, hc_xald, hc_iast, hc_bast, hc_zast, hc_aald, hc_alen, hc_copy, hc_gets, hc_getsI, hc_sald, hc_ldcs, hc_sval, hc_scod, hc_slen, hc_sbald, hc_callI, hc_callL, hc_callV, hc_max, hc_min, hc_abs, hc_ireturn, hc_zreturn, hc_creturn, hc_lreturn, hc_return, hc_none, hc_switch, hv_sw, hv_get, hv_set, hv_set2, hv_mask, hv_fr, hv_noL, hv_pop, hv_pk, hv_isO, hv_isS, hv_any, hv_w, hv_cat, he_nil, he_i, he_r, he_l, hv_repl_0, hv_repl_s, if_true, if_false, and_true, true_and, and_self, Nat.zero_add, Nat.add_zero, Nat.reduceAdd, Nat.reduceLeDiff, List.length_cons, List.length_nil, Int.toNat_natCast, Bool.false_eq_true, reduceIte, Int.toNat_zero, Int.toNat_one, Int.reduceToNat, or_true, true_or, Int.reduceEq, Int.reduceLT, Int.reduceLE, Int.reduceNeg, Int.reduceAdd, Int.reduceSub, Int.reduceMul, Nat.reduceMul, Nat.reduceEqDiff, implies_true, false_implies, true_implies, not_true_eq_false, not_false_eq_true, ne_eq, or_false, false_or, and_false, false_and, or_self, Classical.not_not, Int.zero_add, Int.add_zero, lc_0, lc_22, lc_730, lc_902, lc_1074, lc_1447, lc_1824, lc_2081, lc_2135, lc_4258, lc_5723, lr_0, lt_14, ll_14, lr_2, lr_4, lr_5, lr_6, lr_7, lr_8, lt_1820, ll_1820, lr_9, lt_1822, ll_1822, lr_10, lr_11, lr_12, lr_13, lr_22, lt_30, ll_30, lr_1824, lt_1825, ll_1825, lr_2081, lt_2086, ll_2086, lr_2082, lt_2102, ll_2102, lr_2083, lt_2118, ll_2118, lr_2135, lt_2137, ll_2137, lr_4263, lt_4265, ll_4265, lr_5725, lt_5755, ll_5755, lr_5726, lt_5763, ll_5763, lr_5727, lt_5771, ll_5771, lr_5728, lt_6091, ll_6091, lr_5729, lt_6227, ll_6227, lr_5731, lt_6363, ll_6363, lr_5732, lt_6733, ll_6733, lr_5743, lt_7433, ll_7433, lr_5744, lt_7435, ll_7435, lr_5745, lt_7805, ll_7805, lr_5746, lt_7809, ll_7809, lr_5747, lt_8065, ll_8065, lr_5748, lt_8165, ll_8165, lr_5750, lt_8265, ll_8265, lr_5751, lt_8267, ll_8267, lr_5752, lt_8539, ll_8539, lr_5753, lt_9279, ll_9279, lr_731, lt_733, ll_733, lr_732, lt_899, ll_899, lr_903, lt_905, ll_905, lr_904, lt_1071, ll_1071, lr_1074, lt_1086, ll_1086, lr_1082, lt_1088, ll_1088, lr_1088, lt_1090, ll_1090, lr_1089, lt_1098, ll_1098, lr_1083, lt_1106, ll_1106, lr_1106, lt_1108, ll_1108, lr_1107, lt_1116, ll_1116, lr_1084, lt_1124, ll_1124, lr_1124, lt_1126, ll_1126, lr_1125, lt_1134, ll_1134, lr_1085, lt_1142, ll_1142, lr_1142, lt_1147, ll_1147, lr_1143, lt_1207, ll_1207, lr_1144, lt_1267, ll_1267, lr_1145, lt_1327, ll_1327, lr_1146, lt_1387, ll_1387, lr_1447, lt_1459, ll_1459, lr_1455, lt_1461, ll_1461, lr_1461, lt_1463, ll_1463, lr_1462, lt_1471, ll_1471, lr_1456, lt_1479, ll_1479, lr_1479, lt_1481, ll_1481, lr_1480, lt_1489, ll_1489, lr_1457, lt_1497, ll_1497, lr_1497, lt_1499, ll_1499, lr_1498, lt_1507, ll_1507, lr_1458, lt_1515, ll_1515, lr_1515, lt_1520, ll_1520, lr_1516, lt_1580, ll_1580, lr_1517, lt_1640, ll_1640, lr_1518, lt_1700, ll_1700, lr_1519, lt_1760, ll_1760]
    refine ⟨fun g => ?_, fun g => ?_⟩
    · have : k = 0 := by omega
      subst this
      exact h v a2 a3
    · obtain ⟨s, rfl⟩ : ∃ s, k = s + 1 := ⟨k - 1, by omega⟩
      have es : ((s + 1 : Nat) : Int) - 1 = s := by omega
      rw [es]
      have hs2 : s < 2 ^ c := by omega
      have hTb : ∀ u, s < u → u < 2 ^ c → 0 ≤ v (1825 + u) ∧ v (1825 + u) ≤ 60000 * 256 := fun u u1 u2 => by
        have := okF_b h2 hW a3 (2 ^ c - 1 - u) u (by omega) (by omega)
        omega
      have v0 : ∀ p, p < c → hs s p = 0 → 0 ≤ vl (Wt x sd c) (fun u => v (1825 + u)) s p := fun p hp hp0 => by
        have hpp : 1 ≤ 2 ^ p := Nat.one_le_two_pow
        have := hTb (s + 2 ^ p) (by omega) (b_in c h2 s hs2 p hp hp0)
        have hw := hW (pc s) p (pc_b s) hp
        show 0 ≤ Wt x sd c (pc s) p + v (1825 + (s + 2 ^ p))
        omega
      refine sp_bestNext l hS a2 hs2 hTb ?_
      rcases mx_at v0 c (Nat.le_refl _) with ⟨-, -, b3⟩ | ⟨b, b1, b2, b3, b4, -⟩
      · obtain ⟨p, hp, hp0⟩ := b_ex c h2 s (by omega)
        have := b3 p hp; rw [this] at hp0; exact absurd hp0 (by decide)
      · rw [b1]
        have hpp : 1 ≤ 2 ^ b := Nat.one_le_two_pow
        refine sp_worthWith l hS a2 hs2 b2 b3 (hTb _ (by omega) (b_in c h2 s hs2 b b2 b3)) ?_
        rw [← b4, Int.toNat_natCast]
        have ih' := ih (s, hh_upd v (1825 + s) (mxv (Wt x sd c) (fun u => v (1825 + u)) s c)) ⟨by show s ≤ 2 ^ c - 1; omega, fun a ha => ?_, ?_⟩ (by show s < s + 1; omega)
        rotate_left
        · show hh_upd v _ _ _ = _
          rw [hh_upd_ne (by omega)]
          exact a2 a ha
        · refine okF_step h2 a3 (by omega) (fun u hu1 hu2 => ?_) ?_
          · show hh_upd v _ _ _ = _
            rw [hh_upd_ne (by omega)]
          · exact hh_upd_same _ _ _
        (repeat' (with_reducible refine And.intro ?_ ?_)) <;> first | exact ih' | exact trivial | omega | exact ⟨by omega, by omega⟩
  have en : ((2 ^ c : Nat) : Int) - 1 = ((2 ^ c - 1 : Nat) : Int) := by omega
  have st := main (2 ^ c - 1, hh_upd y (1825 + (2 ^ c - 1)) 0) ⟨Nat.le_refl _, fun a ha => ?_, hh_upd_same _ _ _, fun u u1 u2 => by have : 2 ^ c - 1 ≤ u := u1; omega⟩
  rotate_left
  · show hh_upd y _ _ _ = _
    rw [hh_upd_ne (by omega)]
    exact hf a ha
  rw [en, Int.toNat_natCast]
  have b1 : (((2 ^ c - 1 : Nat) : Int)) < 256 := by omega
  have b0 : 0 ≤ (((2 ^ c - 1 : Nat) : Int)) := Int.natCast_nonneg _
  dsimp only at st
  generalize ((2 ^ c - 1 : Nat) : Int) = z at b0 b1 st ⊢
  (repeat' (with_reducible refine And.intro ?_ ?_)) <;> first | exact st | exact trivial | omega | exact ⟨by omega, by omega⟩
