/-! a tenth: one puller, the reference -/
theorem sp_does (l : Launch) {x y : hm} (hM : ∀ a, 6091 ≤ a → a < 6227 → y a = x a) {s p : Nat} (hs : s < 2) (hp : p < 8) {d : Int} (hd : 0 ≤ d ∧ d ≤ 3) {u : Int} (b1 : 1 ≤ tw x s p 1 ∧ tw x s p 1 ≤ 200) (b2 : 1 ≤ tw x s p 2 ∧ tw x s p 2 ≤ 400) {v : Int} (hv : y (6363 + (10 + 8 * s + p)) = v) (hvb : 0 ≤ v ∧ v ≤ 60) {Q : Int → hm → Prop}
    (h : ∀ y' : hm, y' (6363 + (10 + 8 * s + p)) = f_left (tw x s p 3) v d → y' (6363 + (26 + 8 * s + p)) = f_did v d → y' (6363 + (42 + 8 * s + p)) = f_force (tw x s p 1) (tw x s p 2) (f_did v d) (¬ u = 0) → (if f_did v d = 4 ∧ y 6370 < 0 then y' 6370 = 8 * s + p ∧ y' 6371 = y 6368 else y' 6370 = y 6370 ∧ y' 6371 = y 6371) → (∀ a, a ≠ 6370 → a ≠ 6371 → a ≠ 6363 + (10 + 8 * s + p) → a ≠ 6363 + (26 + 8 * s + p) → a ≠ 6363 + (42 + 8 * s + p) → y' a = y a) → Q (f_force (tw x s p 1) (tw x s p 2) (f_did v d) (¬ u = 0)) y') : hm_I l m_X10_does 2 [Vr 5723, Vi s, Vi p, Vi d, Vi u] y Q := by
  have tk := f_takes_b d
  have eo : ∀ k, k < 5 → ∀ y' : hm, (∀ a, 6091 ≤ a → a < 6227 → y' a = x a) → y' (6091 + (8 + 40 * s + 5 * p + k)) = tw x s p k := fun k hk y' hy' => hy' _ (by omega) (by omega)
  have tail : ∀ (f : Int) (y0 : hm), f = f_force (tw x s p 1) (tw x s p 2) (f_did v d) (¬ u = 0) → y0 (6363 + (26 + 8 * s + p)) = f_did v d → (if f_did v d = 4 ∧ y 6370 < 0 then y0 6370 = 8 * s + p ∧ y0 6371 = y 6368 else y0 6370 = y 6370 ∧ y0 6371 = y 6371) → (∀ a, a ≠ 6370 → a ≠ 6371 → a ≠ 6363 + (26 + 8 * s + p) → y0 a = y a) → hb_X10_does_174 l Q [some (Vr 5723), some (Vi s), some (Vi p), none, none, some (Vi (8 * (s : Int) + p)), none, some (Vi (if v < f_takes d then v + 1 else v - f_takes d)), some (Vi f), none] [] y0 := by
    intro f y0 hf h26 hgv hfr
    have fb := f_force_b b1 b2 (f_did v d) (¬ u = 0)
    rw [← hf] at fb h
    have hy0 : ∀ a, 6091 ≤ a → a < 6227 → y0 a = x a := fun a h1 h2 => by rw [hfr a (by omega) (by omega) (by omega)]; exact hM a h1 h2
    have hle : -2 ≤ (if v < f_takes d then v + 1 else v - f_takes d) ∧ (if v < f_takes d then v + 1 else v - f_takes d) ≤ 70 := by split <;> omega
    have eL : f_left (tw x s p 3) v d = min (tw x s p 3) (if v < f_takes d then v + 1 else v - f_takes d) := rfl
    rw [eL] at h
    generalize (if v < f_takes d then v + 1 else v - f_takes d) = L at hle h ⊢
    have e10 : ((10 : Int) + (8 * (s : Int) + p)).toNat = 10 + 8 * s + p := by omega
    have e42 : ((42 : Int) + (8 * (s : Int) + p)).toNat = 42 + 8 * s + p := by omega
    have fin : ∀ w : Int, w = min (tw x s p 3) L → Q f (hh_upd (hh_upd y0 (6363 + (10 + 8 * s + p)) w) (6363 + (42 + 8 * s + p)) f) := fun w hw => by
      refine h _ (by rw [hh_upd_ne (by omega), hh_upd_same]; exact hw) (by rw [hh_upd_ne (by omega), hh_upd_ne (by omega)]; exact h26) (hh_upd_same _ _ _) ?_ (fun a c1 c2 c3 c4 c5 => by rw [hh_upd_ne c5, hh_upd_ne c3]; exact hfr a c1 c2 c4)
      rw [hh_upd_ne (show 6370 ≠ 6363 + (42 + 8 * s + p) by omega), hh_upd_ne (show 6370 ≠ 6363 + (10 + 8 * s + p) by omega), hh_upd_ne (show 6371 ≠ 6363 + (42 + 8 * s + p) by omega), hh_upd_ne (show 6371 ≠ 6363 + (10 + 8 * s + p) by omega)]
      exact hgv
    simp only [hb_X10_does_174, hb_X10_does_199, hb_X10_does_204, hb_X10_does_206, hc_iconst, hc_lconst, hc_iload, hc_lload, hc_aload, hc_istore, hc_astore, hc_lstore, hc_iinc, hc_dup, hc_dup2, hc_pop, hc_iadd, hc_isub, hc_imul, hc_iaddw, hc_isubw, hc_imulw, hc_inegw, hc_idiv, hc_irem, hc_ineg, hc_b2, hc_b1, hc_i2l, hc_l2i, hc_ladd, hc_l2, hc_lsh, hc_lcmp, hc_if, hc_icmp, hc_jump, hc_getI, hc_getR, hc_putI, hc_putZ, hc_xald, hc_iast, hc_bast, hc_zast, hc_aald, hc_alen, hc_copy, hc_gets, hc_getsI, hc_sald, hc_ldcs, hc_sval, hc_scod, hc_slen, hc_sbald, hc_callI, hc_callL, hc_callV, hc_max, hc_min, hc_abs, hc_ireturn, hc_zreturn, hc_creturn, hc_lreturn, hc_return, hc_none, hc_switch, hv_sw, hv_get, hv_set, hv_set2, hv_mask, hv_fr, hv_noL, hv_pop, hv_pk, hv_isO, hv_isS, hv_any, hv_w, hv_cat, he_nil, he_i, he_r, he_l, hv_repl_0, hv_repl_s, if_true, if_false, and_true, true_and, and_self, Nat.zero_add, Nat.add_zero, Nat.reduceAdd, Nat.reduceLeDiff, List.length_cons, List.length_nil, Int.toNat_natCast, Bool.false_eq_true, reduceIte, Int.toNat_zero, Int.toNat_one, Int.reduceToNat, or_true, true_or, Int.reduceEq, Int.reduceLT, Int.reduceLE, Int.reduceNeg, Int.reduceAdd, Int.reduceSub, Int.reduceMul, Nat.reduceMul, Nat.reduceEqDiff, implies_true, false_implies, true_implies, not_true_eq_false, not_false_eq_true, ne_eq, or_false, false_or, and_false, false_and, or_self, Classical.not_not, Int.zero_add, Int.add_zero, lc_0, lc_22, lc_730, lc_902, lc_1074, lc_1447, lc_1824, lc_2081, lc_2135, lc_4258, lc_5723, lr_0, lt_14, ll_14, lr_2, lr_4, lr_5, lr_6, lr_7, lr_8, lt_1820, ll_1820, lr_9, lt_1822, ll_1822, lr_10, lr_11, lr_12, lr_13, lr_22, lt_30, ll_30, lr_1824, lt_1825, ll_1825, lr_2081, lt_2086, ll_2086, lr_2082, lt_2102, ll_2102, lr_2083, lt_2118, ll_2118, lr_2135, lt_2137, ll_2137, lr_4263, lt_4265, ll_4265, lr_5725, lt_5755, ll_5755, lr_5726, lt_5763, ll_5763, lr_5727, lt_5771, ll_5771, lr_5728, lt_6091, ll_6091, lr_5729, lt_6227, ll_6227, lr_5731, lt_6363, ll_6363, lr_5732, lt_6733, ll_6733, lr_5743, lt_7433, ll_7433, lr_5744, lt_7435, ll_7435, lr_5745, lt_7805, ll_7805, lr_5746, lt_7809, ll_7809, lr_5747, lt_8065, ll_8065, lr_5748, lt_8165, ll_8165, lr_5750, lt_8265, ll_8265, lr_5751, lt_8267, ll_8267, lr_5752, lt_8539, ll_8539, lr_5753, lt_9279, ll_9279, lr_731, lt_733, ll_733, lr_732, lt_899, ll_899, lr_903, lt_905, ll_905, lr_904, lt_1071, ll_1071, lr_1074, lt_1086, ll_1086, lr_1082, lt_1088, ll_1088, lr_1088, lt_1090, ll_1090, lr_1089, lt_1098, ll_1098, lr_1083, lt_1106, ll_1106, lr_1106, lt_1108, ll_1108, lr_1107, lt_1116, ll_1116, lr_1084, lt_1124, ll_1124, lr_1124, lt_1126, ll_1126, lr_1125, lt_1134, ll_1134, lr_1085, lt_1142, ll_1142, lr_1142, lt_1147, ll_1147, lr_1143, lt_1207, ll_1207, lr_1144, lt_1267, ll_1267, lr_1145, lt_1327, ll_1327, lr_1146, lt_1387, ll_1387, lr_1447, lt_1459, ll_1459, lr_1455, lt_1461, ll_1461, lr_1461, lt_1463, ll_1463, lr_1462, lt_1471, ll_1471, lr_1456, lt_1479, ll_1479, lr_1479, lt_1481, ll_1481, lr_1480, lt_1489, ll_1489, lr_1457, lt_1497, ll_1497, lr_1497, lt_1499, ll_1499, lr_1498, lt_1507, ll_1507, lr_1458, lt_1515, ll_1515, lr_1515, lt_1520, ll_1520, lr_1516, lt_1580, ll_1580, lr_1517, lt_1640, ll_1640, lr_1518, lt_1700, ll_1700, lr_1519, lt_1760, ll_1760]
    refine sp_of (k := 3) l hs hp (by decide) ?_
    rw [eo 3 (by omega) y0 hy0, e10, e42]
    refine ⟨⟨by omega, by omega⟩, fun c => ?_, fun c => ?_⟩
    · have fn := fin L (by omega)
      (repeat' (with_reducible refine And.intro ?_ ?_)) <;> first | exact fn | exact trivial | omega | exact ⟨by omega, by omega⟩
    · have fn := fin (tw x s p 3) (by omega)
      (repeat' (with_reducible refine And.intro ?_ ?_)) <;> first | exact fn | exact trivial | omega | exact ⟨by omega, by omega⟩
  refine hr_X10_does l (Nat.le_of_ble_eq_true rfl) ?_
  simp only [hb_X10_does_0, hb_X10_does_42, hb_X10_does_83, hb_X10_does_108, hb_X10_does_112, hb_X10_does_117, hb_X10_does_122, hb_X10_does_132, hb_X10_does_137, hb_X10_does_142, hb_X10_does_149, hb_X10_does_161, hc_iconst, hc_lconst, hc_iload, hc_lload, hc_aload, hc_istore, hc_astore, hc_lstore, hc_iinc, hc_dup, hc_dup2, hc_pop, hc_iadd, hc_isub, hc_imul, hc_iaddw, hc_isubw, hc_imulw, hc_inegw, hc_idiv, hc_irem, hc_ineg, hc_b2, hc_b1, hc_i2l, hc_l2i, hc_ladd, hc_l2, hc_lsh, hc_lcmp, hc_if, hc_icmp, hc_jump, hc_getI, hc_getR, hc_putI, hc_putZ, hc_xald, hc_iast, hc_bast, hc_zast, hc_aald, hc_alen, hc_copy, hc_gets, hc_getsI, hc_sald, hc_ldcs, hc_sval, hc_scod, hc_slen, hc_sbald, hc_callI, hc_callL, hc_callV, hc_max, hc_min, hc_abs, hc_ireturn, hc_zreturn, hc_creturn, hc_lreturn, hc_return, hc_none, hc_switch, hv_sw, hv_get, hv_set, hv_set2, hv_mask, hv_fr, hv_noL, hv_pop, hv_pk, hv_isO, hv_isS, hv_any, hv_w, hv_cat, he_nil, he_i, he_r, he_l, hv_repl_0, hv_repl_s, if_true, if_false, and_true, true_and, and_self, Nat.zero_add, Nat.add_zero, Nat.reduceAdd, Nat.reduceLeDiff, List.length_cons, List.length_nil, Int.toNat_natCast, Bool.false_eq_true, reduceIte, Int.toNat_zero, Int.toNat_one, Int.reduceToNat, or_true, true_or, Int.reduceEq, Int.reduceLT, Int.reduceLE, Int.reduceNeg, Int.reduceAdd, Int.reduceSub, Int.reduceMul, Nat.reduceMul, Nat.reduceEqDiff, implies_true, false_implies, true_implies, not_true_eq_false, not_false_eq_true, ne_eq, or_false, false_or, and_false, false_and, or_self, Classical.not_not, Int.zero_add, Int.add_zero, lc_0, lc_22, lc_730, lc_902, lc_1074, lc_1447, lc_1824, lc_2081, lc_2135, lc_4258, lc_5723, lr_0, lt_14, ll_14, lr_2, lr_4, lr_5, lr_6, lr_7, lr_8, lt_1820, ll_1820, lr_9, lt_1822, ll_1822, lr_10, lr_11, lr_12, lr_13, lr_22, lt_30, ll_30, lr_1824, lt_1825, ll_1825, lr_2081, lt_2086, ll_2086, lr_2082, lt_2102, ll_2102, lr_2083, lt_2118, ll_2118, lr_2135, lt_2137, ll_2137, lr_4263, lt_4265, ll_4265, lr_5725, lt_5755, ll_5755, lr_5726, lt_5763, ll_5763, lr_5727, lt_5771, ll_5771, lr_5728, lt_6091, ll_6091, lr_5729, lt_6227, ll_6227, lr_5731, lt_6363, ll_6363, lr_5732, lt_6733, ll_6733, lr_5743, lt_7433, ll_7433, lr_5744, lt_7435, ll_7435, lr_5745, lt_7805, ll_7805, lr_5746, lt_7809, ll_7809, lr_5747, lt_8065, ll_8065, lr_5748, lt_8165, ll_8165, lr_5750, lt_8265, ll_8265, lr_5751, lt_8267, ll_8267, lr_5752, lt_8539, ll_8539, lr_5753, lt_9279, ll_9279, lr_731, lt_733, ll_733, lr_732, lt_899, ll_899, lr_903, lt_905, ll_905, lr_904, lt_1071, ll_1071, lr_1074, lt_1086, ll_1086, lr_1082, lt_1088, ll_1088, lr_1088, lt_1090, ll_1090, lr_1089, lt_1098, ll_1098, lr_1083, lt_1106, ll_1106, lr_1106, lt_1108, ll_1108, lr_1107, lt_1116, ll_1116, lr_1084, lt_1124, ll_1124, lr_1124, lt_1126, ll_1126, lr_1125, lt_1134, ll_1134, lr_1085, lt_1142, ll_1142, lr_1142, lt_1147, ll_1147, lr_1143, lt_1207, ll_1207, lr_1144, lt_1267, ll_1267, lr_1145, lt_1327, ll_1327, lr_1146, lt_1387, ll_1387, lr_1447, lt_1459, ll_1459, lr_1455, lt_1461, ll_1461, lr_1461, lt_1463, ll_1463, lr_1462, lt_1471, ll_1471, lr_1456, lt_1479, ll_1479, lr_1479, lt_1481, ll_1481, lr_1480, lt_1489, ll_1489, lr_1457, lt_1497, ll_1497, lr_1497, lt_1499, ll_1499, lr_1498, lt_1507, ll_1507, lr_1458, lt_1515, ll_1515, lr_1515, lt_1520, ll_1520, lr_1516, lt_1580, ll_1580, lr_1517, lt_1640, ll_1640, lr_1518, lt_1700, ll_1700, lr_1519, lt_1760, ll_1760]
  refine ⟨⟨by omega, by omega⟩, ⟨by omega, by omega⟩, ?_⟩
  refine sp_of (k := 1) l hs hp (by decide) ?_
  rw [eo 1 (by omega) y hM]
  have e10 : ((10 : Int) + (8 * (s : Int) + p)).toNat = 10 + 8 * s + p := by omega
  have e26 : ((26 : Int) + (8 * (s : Int) + p)).toNat = 26 + 8 * s + p := by omega
  rw [e10, hv]
  refine ⟨⟨by omega, by omega⟩, ⟨by omega, by omega⟩, ?_⟩
  refine sp_takes l ?_
  rw [e26]
  have u26 : ∀ w a, a ≠ 6363 + (26 + 8 * s + p) → hh_upd y (6363 + (26 + 8 * s + p)) w a = y a := fun w a ha => hh_upd_ne ha
  refine ⟨⟨by omega, by omega⟩, fun c => ?_, fun c => ?_⟩
  · have hdid : f_did v d = d := by unfold f_did; rw [if_neg (by omega)]
    have hL : (if v < f_takes d then v + 1 else v - f_takes d) = v - f_takes d := if_neg (by omega)
    have hd4 : ¬ d = 4 := by omega
    rw [hdid, hL] at tail
    have nsp : ∀ f : Int, f = f_force (tw x s p 1) (tw x s p 2) d (¬ u = 0) → hb_X10_does_174 l Q [some (Vr 5723), some (Vi s), some (Vi p), none, none, some (Vi (8 * (s : Int) + p)), none, some (Vi (v - f_takes d)), some (Vi f), none] [] (hh_upd y (6363 + (26 + 8 * s + p)) d) := fun f hf => by
      refine tail f _ hf (hh_upd_same _ _ _) ?_ (fun a _ _ c3 => u26 d a c3)
      rw [if_neg (fun g => hd4 g.1), u26 d 6370 (by omega), u26 d 6371 (by omega)]
      exact ⟨rfl, rfl⟩
    unfold f_force at nsp
    refine ⟨fun c0 => ⟨fun c1 => ⟨fun c3 => ?_, fun c3 => ⟨fun cu => ?_, fun cu => ?_⟩⟩, fun c1 => ?_⟩, fun c0 => ?_⟩
    · have n := nsp _ (by rw [if_neg c0, if_neg c1, if_neg (by omega), if_pos c3])
      (repeat' (with_reducible refine And.intro ?_ ?_)) <;> first | exact n | exact trivial | omega | exact ⟨by omega, by omega⟩
    · refine sp_of (k := 2) l hs hp (by decide) ?_
      rw [eo 2 (by omega) y hM]
      have n := nsp _ (by rw [if_neg c0, if_neg c1, if_pos (by omega), if_pos cu])
      (repeat' (with_reducible refine And.intro ?_ ?_)) <;> first | exact n | exact trivial | omega | exact ⟨by omega, by omega⟩
    · have n := nsp _ (by rw [if_neg c0, if_neg c1, if_pos (by omega), if_neg (fun g => g cu)])
      (repeat' (with_reducible refine And.intro ?_ ?_)) <;> first | exact n | exact trivial | omega | exact ⟨by omega, by omega⟩
    · refine sp_of (k := 2) l hs hp (by decide) ?_
      rw [eo 2 (by omega) y hM]
      have n := nsp _ (by rw [if_neg c0, if_pos c1])
      (repeat' (with_reducible refine And.intro ?_ ?_)) <;> first | exact n | exact trivial | omega | exact ⟨by omega, by omega⟩
    · have n := nsp _ (by rw [if_pos c0])
      (repeat' (with_reducible refine And.intro ?_ ?_)) <;> first | exact n | exact trivial | omega | exact ⟨by omega, by omega⟩
  · have hdid : f_did v d = 4 := by unfold f_did; rw [if_pos (by omega)]
    have hL : (if v < f_takes d then v + 1 else v - f_takes d) = v + 1 := if_pos (by omega)
    rw [hdid, hL] at tail
    have hf4 : (tw x s p 1).tdiv 4 = f_force (tw x s p 1) (tw x s p 2) 4 (¬ u = 0) := by
      unfold f_force
      rw [if_neg (by decide), if_neg (by decide), if_neg (by decide), if_neg (by decide)]
    rw [hv, u26 4 6370 (by omega)]
    refine ⟨⟨by omega, by omega⟩, ⟨by omega, by omega⟩, ⟨by omega, by omega⟩, ⟨by omega, by omega⟩, ⟨by omega, by omega⟩, by decide, fun cg => ?_, fun cg => ⟨by decide, by decide, by decide, ?_⟩⟩
    · refine tail _ _ hf4 (hh_upd_same _ _ _) ?_ (fun a _ _ c3 => u26 4 a c3)
      rw [if_neg (fun g => absurd g.2 (by omega)), u26 4 6370 (by omega), u26 4 6371 (by omega)]
      exact ⟨rfl, rfl⟩
    · refine tail _ _ hf4 (by rw [hh_upd_ne (by omega), hh_upd_ne (by omega), hh_upd_same]) ?_ (fun a c1 c2 c3 => by rw [hh_upd_ne c2, hh_upd_ne c1]; exact u26 4 a c3)
      rw [if_pos ⟨rfl, by omega⟩, hh_upd_same, hh_upd_ne (by omega), hh_upd_same, hh_upd_ne (by omega), u26 4 6368 (by omega)]
      exact ⟨rfl, rfl⟩
