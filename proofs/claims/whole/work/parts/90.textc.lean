/-! reading, the class: the text -/
/-- the match object at m holds the row r -/
def RMr (m : Nat) (r : Nat → Int) (y : hm) : Prop :=
  (∀ s, s < 2 → y (m + 5 + 82 * s) = r s ∧ y (m + 7 + 82 * s) = r (2 + s) ∧
    (∀ p : Nat, p < 8 → (p : Int) < r s → ∀ k, k < 5 → y (m + 17 + 82 * s + 5 * p + k) = r (8 + 40 * s + 5 * p + k)) ∧
    (∀ q : Nat, q < 6 → (q : Int) < r (2 + s) → ∀ k, k < 4 → y (m + 63 + 82 * s + 4 * q + k) = r (88 + 24 * s + 4 * q + k))) ∧
  ∀ i, i < 3 → y (m + 169 + i) = r (5 + i)
def wSd (s c e j : Nat) : Prop := j = s ∨ (8 + 40 * s ≤ j ∧ j < 8 + 40 * s + 5 * c) ∨ j = 2 + s ∨ (88 + 24 * s ≤ j ∧ j < 88 + 24 * s + 4 * e)
section TEXT
variable {T : Nat → Int} {L : Nat} {x : hm} {Q : Int → hm → Prop}
theorem sp_readText (l : Launch) (hO : okTp T L) (hT : tpC T L x) (h1 : ∀ p' r', P_text T L 0 row0 = .inl (p', r') → ∀ y : hm, y 902 = 1 → RMr 902 r' y → (∀ a, ¬ (24 ≤ a ∧ a < 30) → ¬ (902 ≤ a ∧ a < 1074) → y a = x a) → Q 1 y) (h0 : ∀ (f : Int) (q : Nat), P_text T L 0 row0 = .inr (f, q) → ∀ y : hm, y 28 = f → y 29 = q → (∀ a, ¬ (24 ≤ a ∧ a < 30) → ¬ (902 ≤ a ∧ a < 1074) → y a = x a) → Q 0 y) : hm_I l m_X5_readText 8 [Vr 22, Vr 902] x Q := by
  have hL := hO.1
  refine hr_X5_readText l (Nat.le_of_ble_eq_true rfl) ?_
  intro At h16
  simp only [hb_X5_readText_0, hc_iconst, hc_lconst, hc_iload, hc_lload, hc_aload, hc_istore, hc_astore, hc_lstore, hc_iinc, hc_dup, hc_dup2, hc_pop, hc_iadd, hc_isub, hc_imul, hc_iaddw, hc_isubw, hc_imulw, hc_inegw, hc_idiv, hc_irem, hc_ineg, hc_b2, hc_b1, hc_i2l, hc_l2i, hc_ladd, hc_l2, hc_lsh, hc_lcmp, hc_if, hc_icmp, hc_jump, hc_getI, hc_getR, hc_putI, hc_putZ, hc_xald, hc_iast, hc_bast, hc_zast, hc_aald, hc_alen, hc_copy, hc_gets, hc_getsI, hc_sald, hc_ldcs, hc_sval, hc_scod, hc_slen, hc_sbald, hc_callI, hc_callL, hc_callV, hc_max, hc_min, hc_abs, hc_ireturn, hc_zreturn, hc_creturn, hc_lreturn, hc_return, hc_none, hc_switch, hv_sw, hv_get, hv_set, hv_set2, hv_mask, hv_fr, hv_noL, hv_pop, hv_pk, hv_isO, hv_isS, hv_any, hv_w, hv_cat, he_nil, he_i, he_r, he_l, hv_repl_0, hv_repl_s, if_true, if_false, and_true, true_and, and_self, Nat.zero_add, Nat.add_zero, Nat.reduceAdd, Nat.reduceLeDiff, List.length_cons, List.length_nil, Int.toNat_natCast, Bool.false_eq_true, reduceIte, Int.toNat_zero, Int.toNat_one, Int.reduceToNat, or_true, true_or, Int.reduceEq, Int.reduceLT, Int.reduceLE, Int.reduceNeg, Int.reduceAdd, Int.reduceSub, Int.reduceMul, Nat.reduceMul, Nat.reduceEqDiff, implies_true, false_implies, true_implies, not_true_eq_false, not_false_eq_true, ne_eq, or_false, false_or, and_false, false_and, or_self, Classical.not_not, Int.zero_add, Int.add_zero, lc_0, lc_22, lc_730, lc_902, lc_1074, lc_1447, lc_1824, lc_2081, lc_2135, lc_4258, lc_5723, lr_0, lt_14, ll_14, lr_2, lr_4, lr_5, lr_6, lr_7, lr_8, lt_1820, ll_1820, lr_9, lt_1822, ll_1822, lr_10, lr_11, lr_12, lr_13, lr_22, lt_30, ll_30, lr_1824, lt_1825, ll_1825, lr_2081, lt_2086, ll_2086, lr_2082, lt_2102, ll_2102, lr_2083, lt_2118, ll_2118, lr_2135, lt_2137, ll_2137, lr_4263, lt_4265, ll_4265, lr_5725, lt_5755, ll_5755, lr_5726, lt_5763, ll_5763, lr_5727, lt_5771, ll_5771, lr_5728, lt_6091, ll_6091, lr_5729, lt_6227, ll_6227, lr_5731, lt_6363, ll_6363, lr_5732, lt_6733, ll_6733, lr_5743, lt_7433, ll_7433, lr_5744, lt_7435, ll_7435, lr_5745, lt_7805, ll_7805, lr_5746, lt_7809, ll_7809, lr_5747, lt_8065, ll_8065, lr_5748, lt_8165, ll_8165, lr_5750, lt_8265, ll_8265, lr_5751, lt_8267, ll_8267, lr_5752, lt_8539, ll_8539, lr_5753, lt_9279, ll_9279, lr_731, lt_733, ll_733, lr_732, lt_899, ll_899, lr_903, lt_905, ll_905, lr_904, lt_1071, ll_1071, lr_1074, lt_1086, ll_1086, lr_1082, lt_1088, ll_1088, lr_1088, lt_1090, ll_1090, lr_1089, lt_1098, ll_1098, lr_1083, lt_1106, ll_1106, lr_1106, lt_1108, ll_1108, lr_1107, lt_1116, ll_1116, lr_1084, lt_1124, ll_1124, lr_1124, lt_1126, ll_1126, lr_1125, lt_1134, ll_1134, lr_1085, lt_1142, ll_1142, lr_1142, lt_1147, ll_1147, lr_1143, lt_1207, ll_1207, lr_1144, lt_1267, ll_1267, lr_1145, lt_1327, ll_1327, lr_1146, lt_1387, ll_1387, lr_1447, lt_1459, ll_1459, lr_1455, lt_1461, ll_1461, lr_1461, lt_1463, ll_1463, lr_1462, lt_1471, ll_1471, lr_1456, lt_1479, ll_1479, lr_1479, lt_1481, ll_1481, lr_1480, lt_1489, ll_1489, lr_1457, lt_1497, ll_1497, lr_1497, lt_1499, ll_1499, lr_1498, lt_1507, ll_1507, lr_1458, lt_1515, ll_1515, lr_1515, lt_1520, ll_1520, lr_1516, lt_1580, ll_1580, lr_1517, lt_1640, ll_1640, lr_1518, lt_1700, ll_1700, lr_1519, lt_1760, ll_1760]
  have T0 : tpC T L (hh_upd x 26 0) := hT.c hL (fun a ha => hh_upd_ne (by omega))
  refine sp_advance l hO T0 (p := 0) (Nat.zero_le _) (hh_upd_same _ _ _) (fun x1 c1 f1 => ?_)
  have T1 : tpC T L x1 := T0.c hL (fun a ha => f1 a (by omega))
  have X2 : ∀ a, a ≠ 902 → hh_upd x1 902 1 a = x1 a := fun a ha => hh_upd_ne ha
  have E2 : hh_upd x1 902 1 902 = 1 := hh_upd_same _ _ _
  have F2 : ∀ a, ¬ (24 ≤ a ∧ a < 30) → a ≠ 902 → hh_upd x1 902 1 a = x a := fun a h1 h2 => by rw [X2 a h2, f1 a (by omega), hh_upd_ne (by omega)]
  generalize hh_upd x1 902 1 = x2 at X2 E2 F2 ⊢
  have T2 : tpC T L x2 := T1.c hL (fun a ha => X2 a (by omega))
  have C2 : CT T L 0 x2 := CT_c c1 (fun a q1 q2 => X2 a (by omega))
  -- one side
  have step : ∀ (s p : Nat) (r : Nat → Int) (W : Nat → Prop) (y : hm), s < 2 → p ≤ L → tpC T L y → CT T L p y → DR W r y → r s = 0 → r (2 + s) = 0 → frC x2 y → (∀ p' r' (c e : Nat), P_side T L s p r = .inl (p', r') → p' ≤ L → r' s = c → r' (2 + s) = e → ∀ y' : hm, tpC T L y' → CT T L p' y' → DR (fun j => W j ∨ wSd s c e j) r' y' → frC x2 y' → At 16 [some (Vr 22), some (Vr 902), some (Vi (s + 1 : Nat))] [] y') → (∀ (f : Int) (q : Nat), P_side T L s p r = .inr (f, q) → ∀ y' : hm, y' 28 = f → y' 29 = q → frC x2 y' → Q 0 y') → At 16 [some (Vr 22), some (Vr 902), some (Vi s)] [] y := by
    intro s p r W y hs hp hT hS hD hr0 hr2 hF k1 k0
    have hd := is_side902 hs
    refine h16 _ _ _ ?_
    simp only [hb_X5_readText_16, hb_X5_readText_21, hb_X5_readText_28, hb_X5_readText_41, hb_X5_readText_54, hb_X5_readText_56, hc_iconst, hc_lconst, hc_iload, hc_lload, hc_aload, hc_istore, hc_astore, hc_lstore, hc_iinc, hc_dup, hc_dup2, hc_pop, hc_iadd, hc_isub, hc_imul, hc_iaddw, hc_isubw, hc_imulw, hc_inegw, hc_idiv, hc_irem, hc_ineg, hc_b2, hc_b1, hc_i2l, hc_l2i, hc_ladd, hc_l2, hc_lsh, hc_lcmp, hc_if, hc_icmp, hc_jump, hc_getI, hc_getR, hc_putI, hc_putZ, hc_xald, hc_iast, hc_bast, hc_zast, hc_aald, hc_alen, hc_copy, hc_gets, hc_getsI, hc_sald, hc_ldcs, hc_sval, hc_scod, hc_slen, hc_sbald, hc_callI, hc_callL, hc_callV, hc_max, hc_min, hc_abs, hc_ireturn, hc_zreturn, hc_creturn, hc_lreturn, hc_return, hc_none, hc_switch, hv_sw, hv_get, hv_set, hv_set2, hv_mask, hv_fr, hv_noL, hv_pop, hv_pk, hv_isO, hv_isS, hv_any, hv_w, hv_cat, he_nil, he_i, he_r, he_l, hv_repl_0, hv_repl_s, if_true, if_false, and_true, true_and, and_self, Nat.zero_add, Nat.add_zero, Nat.reduceAdd, Nat.reduceLeDiff, List.length_cons, List.length_nil, Int.toNat_natCast, Bool.false_eq_true, reduceIte, Int.toNat_zero, Int.toNat_one, Int.reduceToNat, or_true, true_or, Int.reduceEq, Int.reduceLT, Int.reduceLE, Int.reduceNeg, Int.reduceAdd, Int.reduceSub, Int.reduceMul, Nat.reduceMul, Nat.reduceEqDiff, implies_true, false_implies, true_implies, not_true_eq_false, not_false_eq_true, ne_eq, or_false, false_or, and_false, false_and, or_self, Classical.not_not, Int.zero_add, Int.add_zero, lc_0, lc_22, lc_730, lc_902, lc_1074, lc_1447, lc_1824, lc_2081, lc_2135, lc_4258, lc_5723, lr_0, lt_14, ll_14, lr_2, lr_4, lr_5, lr_6, lr_7, lr_8, lt_1820, ll_1820, lr_9, lt_1822, ll_1822, lr_10, lr_11, lr_12, lr_13, lr_22, lt_30, ll_30, lr_1824, lt_1825, ll_1825, lr_2081, lt_2086, ll_2086, lr_2082, lt_2102, ll_2102, lr_2083, lt_2118, ll_2118, lr_2135, lt_2137, ll_2137, lr_4263, lt_4265, ll_4265, lr_5725, lt_5755, ll_5755, lr_5726, lt_5763, ll_5763, lr_5727, lt_5771, ll_5771, lr_5728, lt_6091, ll_6091, lr_5729, lt_6227, ll_6227, lr_5731, lt_6363, ll_6363, lr_5732, lt_6733, ll_6733, lr_5743, lt_7433, ll_7433, lr_5744, lt_7435, ll_7435, lr_5745, lt_7805, ll_7805, lr_5746, lt_7809, ll_7809, lr_5747, lt_8065, ll_8065, lr_5748, lt_8165, ll_8165, lr_5750, lt_8265, ll_8265, lr_5751, lt_8267, ll_8267, lr_5752, lt_8539, ll_8539, lr_5753, lt_9279, ll_9279, lr_731, lt_733, ll_733, lr_732, lt_899, ll_899, lr_903, lt_905, ll_905, lr_904, lt_1071, ll_1071, lr_1074, lt_1086, ll_1086, lr_1082, lt_1088, ll_1088, lr_1088, lt_1090, ll_1090, lr_1089, lt_1098, ll_1098, lr_1083, lt_1106, ll_1106, lr_1106, lt_1108, ll_1108, lr_1107, lt_1116, ll_1116, lr_1084, lt_1124, ll_1124, lr_1124, lt_1126, ll_1126, lr_1125, lt_1134, ll_1134, lr_1085, lt_1142, ll_1142, lr_1142, lt_1147, ll_1147, lr_1143, lt_1207, ll_1207, lr_1144, lt_1267, ll_1267, lr_1145, lt_1327, ll_1327, lr_1146, lt_1387, ll_1387, lr_1447, lt_1459, ll_1459, lr_1455, lt_1461, ll_1461, lr_1461, lt_1463, ll_1463, lr_1462, lt_1471, ll_1471, lr_1456, lt_1479, ll_1479, lr_1479, lt_1481, ll_1481, lr_1480, lt_1489, ll_1489, lr_1457, lt_1497, ll_1497, lr_1497, lt_1499, ll_1499, lr_1498, lt_1507, ll_1507, lr_1458, lt_1515, ll_1515, lr_1515, lt_1520, ll_1520, lr_1516, lt_1580, ll_1580, lr_1517, lt_1640, ll_1640, lr_1518, lt_1700, ll_1700, lr_1519, lt_1760, ll_1760]
    rw [lr_m905 hs]
    refine ⟨fun g => absurd g (by omega), fun _ => ?_⟩
    unfold P_side at k1 k0
    refine sp_readHead l hO hT hp hS (r := r) (fun p1 e1 hp1 y1 c1 f1 => ⟨fun e => absurd e (by decide), fun _ => ?_⟩) (fun f q e y' q1 q2 q3 => ⟨fun _ => k0 f q (bd_r e) y' q1 q2 (fun a g1 g2 => by rw [q3 a g1]; exact hF a g1 g2), fun e => absurd rfl e⟩)
    rw [bd_l e1] at k1 k0
    have t1 : tpC T L y1 := hT.c hL (fun a ha => f1 a (by omega))
    have d1 := DR_c hD (y := y1) (fun a g1 g2 => f1 a (by omega))
    have F1 : frC x2 y1 := fun a g1 g2 => by rw [f1 a g1]; exact hF a g1 g2
    have pu := sp_readPullers l hO t1 hp1 c1 d1 hs hr0 (Q := fun a x' => (a = 0 → Q 0 x') ∧ (¬ a = 0 → ((5 : Nat) < 8 ∧ 0 ≤ (s : Int) ∧ (s : Int) < ((2 : Nat) : Int)) ∧ hm_I l m_X5_readRules 7 [Vr 22, Vr (907 + 82 * s)] x' (fun a x'' => (¬ a = 0 → hv_I ((s : Int) + 1) ∧ At 16 [some (Vr 22), some (Vr 902), some (Vi ((s : Int) + 1))] [] x'') ∧ (a = 0 → Q 0 x'')))) (fun p2 r2 c e2 hp2 hc y2 t2 c2 d2 f2 => ⟨fun e => absurd e (by decide), fun _ => ⟨⟨by decide, by omega, by omega⟩, ?_⟩⟩) (fun f q e y' q1 q2 q3 => ⟨fun _ => k0 f q (bd_r e) y' q1 q2 (F1.trans q3), fun e => absurd rfl e⟩)
    rotate_left
    · rw [bd_l e2] at k1 k0
      have un := (P_pullers_ok hs 9 0 p1 r e2 hp1 hr0 (fun q hq => absurd hq (Nat.not_lt_zero _)) (by omega)).2.2
      have r22 : r2 (2 + s) = 0 := by rw [un _ (by omega) (by omega)]; exact hr2
      refine sp_readRules l hO t2 hp2 c2 d2 hs r22 (fun p3 r3 e e3 hp3 he y3 t3 c3 d3 f3 => ⟨fun _ => ⟨⟨by omega, by omega⟩, ?_⟩, fun e => absurd e (by decide)⟩) (fun f q e y' q1 q2 q3 => ⟨fun e => absurd rfl e, fun _ => k0 f q e y' q1 q2 ((F1.trans f2).trans q3)⟩)
      have un2 := (P_rules_ok hs 7 0 p2 r2 e3 hp2 r22 (fun q hq => absurd hq (Nat.not_lt_zero _)) (by omega)).2.2
      have nx := k1 p3 r3 c e e3 hp3 (by rw [un2 _ (by omega) (by omega)]; exact hc) he y3 t3 c3 (DR_w d3 (fun j hj => ?_)) ((F1.trans f2).trans f3)
      · have es : ((s + 1 : Nat) : Int) = (s : Int) + 1 := by omega
        rw [es] at nx
        exact nx
      · rcases hj with g | g | g | g | g
        · exact Or.inl (Or.inl g)
        · exact Or.inl (Or.inr (Or.inl g))
        · exact Or.inl (Or.inr (Or.inr g))
        · exact Or.inr (Or.inl g)
        · exact Or.inr (Or.inr g)
    (repeat' (with_reducible refine And.intro ?_ ?_)) <;> first | exact pu | exact trivial | omega | exact ⟨by omega, by omega⟩
  unfold P_text at h1 h0
  have toX : ∀ y : hm, frC x2 y → ∀ a, ¬ (24 ≤ a ∧ a < 30) → ¬ (902 ≤ a ∧ a < 1074) → y a = x a := fun y hF a g1 g2 => by rw [hF a g1 (by omega)]; exact F2 a g1 (by omega)
  refine step 0 0 row0 (fun _ => False) x2 (by omega) (Nat.zero_le _) T2 C2 (fun i hi => hi.elim) rfl rfl (fun _ _ _ => rfl) (fun p3 r3 c e e3 hp3 hc he y3 t3 k3 d3 f3 => ?_) (fun f q e y' q1 q2 q3 => h0 f q (bd_r e) y' q1 q2 (toX y' q3))
  rw [bd_l e3] at h1 h0
  have s0 := P_side_ok (by omega) e3 (Nat.zero_le _) rfl rfl
  have z0 : ∀ j, j = 1 ∨ j = 3 ∨ (5 ≤ j ∧ j < 8) → r3 j = row0 j := fun j hj => s0.2.2 j (by omega) (by omega) (by omega) (by omega)
  refine step 1 p3 r3 _ y3 (by omega) hp3 t3 k3 d3 (by rw [z0 1 (by omega)]; rfl) (by rw [z0 3 (by omega)]; rfl) f3 (fun p4 r4 c4 e4' e4 hp4 hc4 he4 y4 t4 k4 d4 f4 => ?_) (fun f q e y' q1 q2 q3 => h0 f q (bd_r e) y' q1 q2 (toX y' q3))
  rw [bd_l e4] at h1 h0
  have s1 := P_side_ok (by omega) e4 hp3 (by rw [z0 1 (by omega)]; rfl) (by rw [z0 3 (by omega)]; rfl)
  have z1 : ∀ j, 5 ≤ j → j < 8 → r4 j = row0 j := fun j q1 q2 => by rw [s1.2.2 j (by omega) (by omega) (by omega) (by omega)]; exact z0 j (by omega)
  have key : ∀ s : Nat, s = 2 → At 16 [some (Vr 22), some (Vr 902), some (Vi s)] [] y4 := by
    intro s hs2
    refine h16 _ _ _ ?_
    simp only [hb_X5_readText_16, hb_X5_readText_62, hb_X5_readText_70, hb_X5_readText_77, hb_X5_readText_85, hb_X5_readText_89, hb_X5_readText_90, hc_iconst, hc_lconst, hc_iload, hc_lload, hc_aload, hc_istore, hc_astore, hc_lstore, hc_iinc, hc_dup, hc_dup2, hc_pop, hc_iadd, hc_isub, hc_imul, hc_iaddw, hc_isubw, hc_imulw, hc_inegw, hc_idiv, hc_irem, hc_ineg, hc_b2, hc_b1, hc_i2l, hc_l2i, hc_ladd, hc_l2, hc_lsh, hc_lcmp, hc_if, hc_icmp, hc_jump, hc_getI, hc_getR, hc_putI, hc_putZ, hc_xald, hc_iast, hc_bast, hc_zast, hc_aald, hc_alen, hc_copy, hc_gets, hc_getsI, hc_sald, hc_ldcs, hc_sval, hc_scod, hc_slen, hc_sbald, hc_callI, hc_callL, hc_callV, hc_max, hc_min, hc_abs, hc_ireturn, hc_zreturn, hc_creturn, hc_lreturn, hc_return, hc_none, hc_switch, hv_sw, hv_get, hv_set, hv_set2, hv_mask, hv_fr, hv_noL, hv_pop, hv_pk, hv_isO, hv_isS, hv_any, hv_w, hv_cat, he_nil, he_i, he_r, he_l, hv_repl_0, hv_repl_s, if_true, if_false, and_true, true_and, and_self, Nat.zero_add, Nat.add_zero, Nat.reduceAdd, Nat.reduceLeDiff, List.length_cons, List.length_nil, Int.toNat_natCast, Bool.false_eq_true, reduceIte, Int.toNat_zero, Int.toNat_one, Int.reduceToNat, or_true, true_or, Int.reduceEq, Int.reduceLT, Int.reduceLE, Int.reduceNeg, Int.reduceAdd, Int.reduceSub, Int.reduceMul, Nat.reduceMul, Nat.reduceEqDiff, implies_true, false_implies, true_implies, not_true_eq_false, not_false_eq_true, ne_eq, or_false, false_or, and_false, false_and, or_self, Classical.not_not, Int.zero_add, Int.add_zero, lc_0, lc_22, lc_730, lc_902, lc_1074, lc_1447, lc_1824, lc_2081, lc_2135, lc_4258, lc_5723, lr_0, lt_14, ll_14, lr_2, lr_4, lr_5, lr_6, lr_7, lr_8, lt_1820, ll_1820, lr_9, lt_1822, ll_1822, lr_10, lr_11, lr_12, lr_13, lr_22, lt_30, ll_30, lr_1824, lt_1825, ll_1825, lr_2081, lt_2086, ll_2086, lr_2082, lt_2102, ll_2102, lr_2083, lt_2118, ll_2118, lr_2135, lt_2137, ll_2137, lr_4263, lt_4265, ll_4265, lr_5725, lt_5755, ll_5755, lr_5726, lt_5763, ll_5763, lr_5727, lt_5771, ll_5771, lr_5728, lt_6091, ll_6091, lr_5729, lt_6227, ll_6227, lr_5731, lt_6363, ll_6363, lr_5732, lt_6733, ll_6733, lr_5743, lt_7433, ll_7433, lr_5744, lt_7435, ll_7435, lr_5745, lt_7805, ll_7805, lr_5746, lt_7809, ll_7809, lr_5747, lt_8065, ll_8065, lr_5748, lt_8165, ll_8165, lr_5750, lt_8265, ll_8265, lr_5751, lt_8267, ll_8267, lr_5752, lt_8539, ll_8539, lr_5753, lt_9279, ll_9279, lr_731, lt_733, ll_733, lr_732, lt_899, ll_899, lr_903, lt_905, ll_905, lr_904, lt_1071, ll_1071, lr_1074, lt_1086, ll_1086, lr_1082, lt_1088, ll_1088, lr_1088, lt_1090, ll_1090, lr_1089, lt_1098, ll_1098, lr_1083, lt_1106, ll_1106, lr_1106, lt_1108, ll_1108, lr_1107, lt_1116, ll_1116, lr_1084, lt_1124, ll_1124, lr_1124, lt_1126, ll_1126, lr_1125, lt_1134, ll_1134, lr_1085, lt_1142, ll_1142, lr_1142, lt_1147, ll_1147, lr_1143, lt_1207, ll_1207, lr_1144, lt_1267, ll_1267, lr_1145, lt_1327, ll_1327, lr_1146, lt_1387, ll_1387, lr_1447, lt_1459, ll_1459, lr_1455, lt_1461, ll_1461, lr_1461, lt_1463, ll_1463, lr_1462, lt_1471, ll_1471, lr_1456, lt_1479, ll_1479, lr_1479, lt_1481, ll_1481, lr_1480, lt_1489, ll_1489, lr_1457, lt_1497, ll_1497, lr_1497, lt_1499, ll_1499, lr_1498, lt_1507, ll_1507, lr_1458, lt_1515, ll_1515, lr_1515, lt_1520, ll_1520, lr_1516, lt_1580, ll_1580, lr_1517, lt_1640, ll_1640, lr_1518, lt_1700, ll_1700, lr_1519, lt_1760, ll_1760]
    refine ⟨fun _ => ?_, fun g => absurd (by omega) g⟩
    refine sp_readGround l hO t4 hp4 k4 d4 (z1 5 (by omega) (by omega)) (z1 6 (by omega) (by omega)) (z1 7 (by omega) (by omega)) (fun p5 r5 e5 hp5 y5 t5 k5 d5 f5 => ⟨fun e => absurd e (by decide), fun _ => ?_⟩) (fun f q e y' q1 q2 q3 => ⟨fun _ => h0 f q (bd_r e) y' q1 q2 (toX y' (f4.trans q3)), fun e => absurd rfl e⟩)
    rw [bd_l e5] at h1 h0
    have F5 := f4.trans f5
    rw [k5.1]
    refine ⟨fun g => ?_, fun g => ?_⟩
    · have ee : P_end T L p5 r5 = .inl (p5, r5) := by unfold P_end; rw [if_pos g]
      have so : (1 ≤ r4 5 ∧ r4 5 ≤ 100) ∧ (0 ≤ r4 6 ∧ r4 6 ≤ 20) ∧ 1 ≤ r4 7 ∧ r4 7 ≤ 99 := by
        have r5 : row0 5 = 100 := rfl
        have r6 : row0 6 = 0 := rfl
        have r7 : row0 7 = 20 := rfl
        rw [z1 5 (by omega) (by omega), z1 6 (by omega) (by omega), z1 7 (by omega) (by omega), r5, r6, r7]
        omega
      have un := (P_ground_ok e5 hp4 so.1 so.2.1 so.2.2).2.2
      refine h1 p5 r5 ee y5 (by rw [F5 902 (by omega) (by omega)]; exact E2) ?_ (toX y5 F5)
      have C : ∀ s, s < 2 → ∃ c e : Nat, r5 s = c ∧ r5 (2 + s) = e ∧ ∀ j, wSd s c e j → y5 (loc j) = r5 j := by
        intro s hs
        rcases (show s = 0 ∨ s = 1 by omega) with rfl | rfl
        · refine ⟨c, e, ?_, ?_, fun j hj => (d5 j (Or.inl (Or.inl (Or.inr hj)))).2⟩
          · rw [un 0 (by omega), s1.2.2 0 (by omega) (by omega) (by omega) (by omega)]; exact hc
          · rw [un 2 (by omega), s1.2.2 2 (by omega) (by omega) (by omega) (by omega)]; exact he
        · refine ⟨c4, e4', ?_, ?_, fun j hj => (d5 j (Or.inl (Or.inr hj))).2⟩
          · rw [un 1 (by omega)]; exact hc4
          · rw [un 3 (by omega)]; exact he4
      refine ⟨fun s hs => ?_, fun i hi => ?_⟩
      · obtain ⟨cc, ce, q1, q2, q3⟩ := C s hs
        have lc := loc_ct hs
        refine ⟨?_, ?_, fun p hp hl k hk => ?_, fun q hq hl k hk => ?_⟩
        · have := q3 s (Or.inl rfl)
          rw [lc.1.1] at this
          exact this
        · have := q3 (2 + s) (Or.inr (Or.inr (Or.inl rfl)))
          rw [lc.2.1] at this
          exact this
        · have := q3 (8 + 40 * s + 5 * p + k) (Or.inr (Or.inl (by omega)))
          rw [(loc_tr hs hp hk).1] at this
          rw [← this]; congr 1; omega
        · have := q3 (88 + 24 * s + 4 * q + k) (Or.inr (Or.inr (Or.inr (by omega))))
          rw [(loc_ru hs hq hk).1] at this
          rw [← this]; congr 1; omega
      · have := (d5 (5 + i) (Or.inr (by omega))).2
        rw [(loc_gr hi).1] at this
        exact this
    · have ee : P_end T L p5 r5 = .inr (1, tSt T L p5) := by unfold P_end; rw [if_neg g]
      refine sp_refuse l k5.2.1 (fun y q1 q2 q3 => ⟨fun _ => h0 1 _ ee y q1 q2 (toX y (fun a g1 g2 => by rw [q3 a (by omega) (by omega)]; exact F5 a g1 g2)), fun e => absurd rfl e⟩)
  exact key 2 rfl
end TEXT
