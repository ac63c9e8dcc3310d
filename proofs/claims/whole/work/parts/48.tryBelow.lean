/-! chosen: the class's search -/
theorem sw_pos : ∀ (p t : Nat), t < 2 ^ p → 0 < t → 1 ≤ sw (fun _ => 1) t p
  | 0, t, h, h0 => by have : t < 1 := h; omega
  | p + 1, t, h, h0 => by
    have nn := sw_nn (f := fun _ => 1) (A := p) (fun _ _ => by decide) t p (Nat.le_refl _)
    rw [sw_s]
    by_cases c : t.testBit p = true
    · rw [if_pos c]; omega
    · rw [if_neg c]
      have c2 : t / 2 ^ p % 2 ≠ 1 := fun e => c (by rw [Nat.testBit_eq_decide_div_mod_eq]; exact decide_eq_true e)
      have c3 : t / 2 ^ p < 2 := Nat.div_lt_of_lt_mul (by rw [← Nat.pow_succ]; exact h)
      have c4 : t / 2 ^ p = 0 := (show ∀ z : Nat, z % 2 ≠ 1 → z < 2 → z = 0 by omega) _ c2 c3
      have c5 : t < 2 ^ p := by
        rcases Nat.lt_or_ge t (2 ^ p) with g | g
        · exact g
        · have := Nat.div_pos g (Nat.two_pow_pos p); omega
      have := sw_pos p t c5 h0
      omega
def okC (wt hd : Nat → Int) (A : Nat) (y : hm) : Prop := (∀ p, p < A → y (2086 + p) = wt p ∧ y (2102 + p) = hd p ∧ (0 ≤ wt p ∧ wt p ≤ 200) ∧ 0 ≤ hd p ∧ hd p ≤ 200) ∧ ∀ r, r ≤ A → y (2118 + r) = below hd r
theorem below_b {hd : Nat → Int} {A : Nat} (h : ∀ p, p < A → 0 ≤ hd p ∧ hd p ≤ 200) : ∀ r, r ≤ A → 0 ≤ below hd r ∧ below hd r ≤ 200 * r
  | 0, _ => by show (0 : Int) ≤ 0 ∧ (0 : Int) ≤ 200 * ((0 : Nat) : Int); omega
  | r + 1, hr => by
    have := below_b h r (by omega)
    have := h r (by omega)
    show 0 ≤ below hd r + hd r ∧ below hd r + hd r ≤ 200 * ((r + 1 : Nat) : Int)
    omega
def fC (x y : hm) : Prop := ∀ a, a ≠ 2084 → a ≠ 2085 → y a = x a
theorem okC_congr {wt hd : Nat → Int} {A : Nat} (hA : A ≤ 16) {x y : hm} (hf : fC x y) (h : okC wt hd A x) : okC wt hd A y := by
  refine ⟨fun p hp => ?_, fun r hr => ?_⟩
  · rw [hf _ (by omega) (by omega), hf _ (by omega) (by omega)]; exact h.1 p hp
  · rw [hf _ (by omega) (by omega)]; exact h.2 r hr
theorem sp_tryBelow (l : Launch) {wt hd : Nat → Int} {A : Nat} (hA : A ≤ 16) {w n : Int} (hw : 0 ≤ w ∧ w ≤ 2000) (hn : 0 ≤ n ∧ n ≤ 16) : ∀ (row dd : Nat), row ≤ A → row < dd → ∀ (y : hm) (b : Int × Int) (q : Nat) (Q : hm → Prop), okC wt hd A y → y 2084 = b.1 → y 2085 = b.2 → 2 ^ row * q + 2 ^ row ≤ 2 ^ A → sw wt (2 ^ row * q) A ≤ w → sw (fun _ => 1) (2 ^ row * q) A ≤ n → (∀ y' : hm, fC y y' → y' 2084 = (scan wt hd A w n b (2 ^ row * q) (2 ^ row)).1 → y' 2085 = (scan wt hd A w n b (2 ^ row * q) (2 ^ row)).2 → Q y') → hm_V l m_X0_tryBelow dd [Vr 2081, Vi row, Vi (w - sw wt (2 ^ row * q) A), Vi (n - sw (fun _ => 1) (2 ^ row * q) A), Vi (2 ^ row * q : Nat), Vi (sw hd (2 ^ row * q) A)] y Q := by
  intro row
  induction row using Nat.strongRecOn with
  | ind row ih =>
    intro dd hrA hrd y b q Q hC hb1 hb2 hset hW hN hQ
    obtain ⟨d, rfl⟩ : ∃ d, dd = d + 1 := ⟨dd - 1, by omega⟩
    have hpA : ∀ p, p ≤ 16 → 2 ^ p ≤ 65536 := by decide
    have hpowA := hpA A hA
    have hpr := Nat.two_pow_pos row
    have wn := sw_nn (f := wt) (A := A) (fun p hp => (hC.1 p hp).2.2.1.1)
    have hn0 := sw_nn (f := hd) (A := A) (fun p hp => (hC.1 p hp).2.2.2.1)
    have on0 := sw_nn (f := fun _ => 1) (A := A) (fun _ _ => by decide)
    have hbb := below_b (fun p hp => (hC.1 p hp).2.2.2)
    generalize hS : 2 ^ row * q = S at hset hW hN hQ ⊢
    have wnS := wn S A (Nat.le_refl _)
    have hnS := hn0 S A (Nat.le_refl _)
    have onS := on0 S A (Nat.le_refl _)
    have hHle : sw hd S A ≤ 3200 := by
      have h1 := sw_le' (fun p hp => (hC.1 p hp).2.2.2.1) (show S < 2 ^ A by omega) (Nat.le_refl A)
      have h2 := (hbb A (Nat.le_refl _)).2
      omega
    refine hr_X0_tryBelow l d (Nat.le_of_ble_eq_true rfl) ?_
    have cont : ∀ y1 : hm, fC y y1 → y1 2084 = (stc wt hd A w n b S).1 → y1 2085 = (stc wt hd A w n b S).2 → hb_X0_tryBelow_21 l d Q [some (Vr 2081), some (Vi row), some (Vi (w - sw wt S A)), some (Vi (n - sw (fun _ => 1) S A)), some (Vi S), some (Vi (sw hd S A)), none] [] y1 := by
      intro y1 f1 e1 e2
      have hC1 := okC_congr hA f1 hC
      have first : ∀ k, scan wt hd A w n b S (1 + k) = scan wt hd A w n (stc wt hd A w n b S) (S + 1) k := fun k => by rw [scan_add]; rfl
      have full : 2 ^ row = 1 + (2 ^ row - 1) := by omega
      have stop : scan wt hd A w n b S (2 ^ row) = stc wt hd A w n b S → Q y1 := fun e => hQ y1 f1 (by rw [e]; exact e1) (by rw [e]; exact e2)
      simp only [hb_X0_tryBelow_21, hb_X0_tryBelow_25, hb_X0_tryBelow_29, hb_X0_tryBelow_45, hb_X0_tryBelow_46, hb_X0_tryBelow_74, hb_X0_tryBelow_109, hc_iconst, hc_lconst, hc_iload, hc_lload, hc_aload, hc_istore, hc_astore, hc_lstore, hc_iinc, hc_dup, hc_dup2, hc_pop, hc_iadd, hc_isub, hc_imul, hc_iaddw, hc_isubw, hc_imulw, hc_inegw, hc_idiv, hc_irem, hc_ineg, hc_b2, hc_b1, hc_i2l, hc_l2i, hc_ladd, hc_l2, hc_lsh, hc_lcmp, hc_if, hc_icmp, hc_jump, hc_getI, hc_getR, hc_putI, hc_putZ, hc_xald, hc_iast, hc_bast, hc_zast, hc_aald, hc_alen, hc_copy, hc_gets, hc_getsI, hc_sald, hc_ldcs, hc_sval, hc_scod, hc_slen, hc_sbald, hc_callI, hc_callL, hc_callV, hc_max, hc_min, hc_abs, hc_ireturn, hc_zreturn, hc_creturn, hc_lreturn, hc_return, hc_none, hc_switch, hv_sw, hv_get, hv_set, hv_set2, hv_mask, hv_fr, hv_noL, hv_pop, hv_pk, hv_isO, hv_isS, hv_any, hv_w, hv_cat, he_nil, he_i, he_r, he_l, hv_repl_0, hv_repl_s, if_true, if_false, and_true, true_and, and_self, Nat.zero_add, Nat.add_zero, Nat.reduceAdd, Nat.reduceLeDiff, List.length_cons, List.length_nil, Int.toNat_natCast, Bool.false_eq_true, reduceIte, Int.toNat_zero, Int.toNat_one, Int.reduceToNat, or_true, true_or, Int.reduceEq, Int.reduceLT, Int.reduceLE, Int.reduceNeg, Int.reduceAdd, Int.reduceSub, Int.reduceMul, Nat.reduceMul, Nat.reduceEqDiff, implies_true, false_implies, true_implies, not_true_eq_false, not_false_eq_true, ne_eq, or_false, false_or, and_false, false_and, or_self, Classical.not_not, Int.zero_add, Int.add_zero, lc_0, lc_22, lc_730, lc_902, lc_1074, lc_1447, lc_1824, lc_2081, lc_2135, lc_4258, lc_5723, lr_0, lt_14, ll_14, lr_2, lr_4, lr_5, lr_6, lr_7, lr_8, lt_1820, ll_1820, lr_9, lt_1822, ll_1822, lr_10, lr_11, lr_12, lr_13, lr_22, lt_30, ll_30, lr_1824, lt_1825, ll_1825, lr_2081, lt_2086, ll_2086, lr_2082, lt_2102, ll_2102, lr_2083, lt_2118, ll_2118, lr_2135, lt_2137, ll_2137, lr_4263, lt_4265, ll_4265, lr_5725, lt_5755, ll_5755, lr_5726, lt_5763, ll_5763, lr_5727, lt_5771, ll_5771, lr_5728, lt_6091, ll_6091, lr_5729, lt_6227, ll_6227, lr_5731, lt_6363, ll_6363, lr_5732, lt_6733, ll_6733, lr_5743, lt_7433, ll_7433, lr_5744, lt_7435, ll_7435, lr_5745, lt_7805, ll_7805, lr_5746, lt_7809, ll_7809, lr_5747, lt_8065, ll_8065, lr_5748, lt_8165, ll_8165, lr_5750, lt_8265, ll_8265, lr_5751, lt_8267, ll_8267, lr_5752, lt_8539, ll_8539, lr_5753, lt_9279, ll_9279, lr_731, lt_733, ll_733, lr_732, lt_899, ll_899, lr_903, lt_905, ll_905, lr_904, lt_1071, ll_1071, lr_1074, lt_1086, ll_1086, lr_1082, lt_1088, ll_1088, lr_1088, lt_1090, ll_1090, lr_1089, lt_1098, ll_1098, lr_1083, lt_1106, ll_1106, lr_1106, lt_1108, ll_1108, lr_1107, lt_1116, ll_1116, lr_1084, lt_1124, ll_1124, lr_1124, lt_1126, ll_1126, lr_1125, lt_1134, ll_1134, lr_1085, lt_1142, ll_1142, lr_1142, lt_1147, ll_1147, lr_1143, lt_1207, ll_1207, lr_1144, lt_1267, ll_1267, lr_1145, lt_1327, ll_1327, lr_1146, lt_1387, ll_1387, lr_1447, lt_1459, ll_1459, lr_1455, lt_1461, ll_1461, lr_1461, lt_1463, ll_1463, lr_1462, lt_1471, ll_1471, lr_1456, lt_1479, ll_1479, lr_1479, lt_1481, ll_1481, lr_1480, lt_1489, ll_1489, lr_1457, lt_1497, ll_1497, lr_1497, lt_1499, ll_1499, lr_1498, lt_1507, ll_1507, lr_1458, lt_1515, ll_1515, lr_1515, lt_1520, ll_1520, lr_1516, lt_1580, ll_1580, lr_1517, lt_1640, ll_1640, lr_1518, lt_1700, ll_1700, lr_1519, lt_1760, ll_1760]
      have add : ∀ (f : Nat → Int) t, t < 2 ^ row → sw f (S + t) A = sw f S A + sw f t A := fun f t ht => by rw [← hS]; exact sw_add f ht A
      have b18 := hC1.2 row hrA
      have hbr := hbb row hrA
      refine ⟨fun c => ?_, fun c => ⟨fun c2 => ?_, fun c2 => ⟨⟨by omega, by omega⟩, ⟨by omega, by omega⟩, fun c3 => ?_, fun c3 => ?_⟩⟩⟩
      · have : row = 0 := by omega
        subst this
        exact stop rfl
      · refine stop ?_
        rw [full, first]
        refine scan_id wt hd A w n _ (fun t ht g => ?_)
        rw [Nat.add_assoc, add (fun _ => 1) _ (by omega)] at g
        have := sw_pos A (1 + t) (by omega) (by omega)
        omega
      · obtain ⟨r, rfl⟩ : ∃ r, row = r + 1 := ⟨row - 1, by omega⟩
        have er : ((r + 1 : Nat) : Int) - 1 = r := by omega
        have h2r : 2 ^ (r + 1) = 2 ^ r + 2 ^ r := by rw [Nat.pow_succ]; omega
        have hS1 : 2 ^ r * (2 * q) = S := by rw [← hS, Nat.pow_succ, Nat.mul_assoc]
        have hS2 : 2 ^ r * (2 * q + 1) = S + 2 ^ r := by rw [Nat.mul_add, hS1, Nat.mul_one]
        have hC1r := hC1.1 r (by omega)
        have s1 : stc wt hd A w n (stc wt hd A w n b S) S = stc wt hd A w n b S := by
          by_cases g : b.2 < sw hd S A
          · have e : stc wt hd A w n b S = ((S : Int), sw hd S A) := by unfold stc; rw [if_pos ⟨hW, hN, g⟩]
            rw [e]; unfold stc; rw [if_neg (fun h => Int.lt_irrefl _ h.2.2)]
          · have e : stc wt hd A w n b S = b := by unfold stc; rw [if_neg (fun h => g h.2.2)]
            rw [e, e]
        have half : scan wt hd A w n (stc wt hd A w n b S) S (2 ^ r) = scan wt hd A w n b S (2 ^ r) := by
          have hp2 := Nat.two_pow_pos r
          have f2 : 2 ^ r = 1 + (2 ^ r - 1) := by omega
          rw [f2, scan_add, first]
          show scan wt hd A w n (stc wt hd A w n (stc wt hd A w n b S) S) (S + 1) _ = _
          rw [s1]
        have whole : scan wt hd A w n b S (2 ^ (r + 1)) = scan wt hd A w n (scan wt hd A w n b S (2 ^ r)) (S + 2 ^ r) (2 ^ r) := by rw [h2r, scan_add]
        rw [er]
        refine ⟨⟨by omega, by omega⟩, ?_⟩
        have ih1 := ih r (by omega) d (by omega) (by omega) y1 (stc wt hd A w n b S) (2 * q)
        rw [hS1] at ih1
        refine ih1 _ hC1 e1 e2 (by omega) hW hN (fun y2 f2 g1 g2 => ?_)
        rw [half] at g1 g2
        have f12 : fC y y2 := fun a h1 h2 => by rw [f2 a h1 h2]; exact f1 a h1 h2
        have hC2 := okC_congr hA f2 hC1
        have hC2r := hC2.1 r (by omega)
        rw [Int.toNat_natCast, hC2r.1, hC2r.2.1]
        refine ⟨⟨by omega, by omega⟩, fun c4 => ?_, fun c4 => ?_⟩
        · have hid : scan wt hd A w n b S (2 ^ (r + 1)) = scan wt hd A w n b S (2 ^ r) := by
            rw [whole]
            refine scan_id wt hd A w n _ (fun t ht g => ?_)
            rw [← hS2, sw_add wt ht, hS2, add wt _ (by omega), sw_pow, if_pos (by omega)] at g
            have := wn t A (Nat.le_refl _)
            omega
          exact hQ y2 f12 (by rw [hid]; exact g1) (by rw [hid]; exact g2)
        · have sd0 : S % 2 ^ (r + 1) = 0 := by rw [← hS]; exact Nat.mul_mod_right _ _
          rw [n_add (by omega) (by omega) sd0]
          have a1 := add wt (2 ^ r) (by omega)
          have a2 := add (fun _ => 1) (2 ^ r) (by omega)
          have a3 := add hd (2 ^ r) (by omega)
          rw [sw_pow, if_pos (by omega)] at a1 a2 a3
          have ih2 := ih r (by omega) d (by omega) (by omega) y2 (scan wt hd A w n b S (2 ^ r)) (2 * q + 1)
          rw [hS2, a1, a2, a3] at ih2
          have ih2' := ih2 Q hC2 g1 g2 (by omega) (by omega) (by omega) (fun y3 f3 k1 k2 => hQ y3 (fun a h1 h2 => by rw [f3 a h1 h2]; exact f12 a h1 h2) (by rw [whole]; exact k1) (by rw [whole]; exact k2))
          rw [show w - (sw wt S A + wt r) = w - sw wt S A - wt r by omega, show n - (sw (fun _ => 1) S A + 1) = n - sw (fun _ => 1) S A - 1 by omega] at ih2'
          (repeat' (with_reducible refine And.intro ?_ ?_)) <;> first | exact ih2' | exact trivial | omega | exact ⟨by omega, by omega⟩
      · refine stop ?_
        rw [full, first]
        refine scan_id wt hd A w n _ (fun t ht g => ?_)
        rw [Nat.add_assoc, add hd _ (by omega)] at g
        have := sw_le' (fun p hp => (hC.1 p hp).2.2.2.1) (show 1 + t < 2 ^ row by omega) hrA
        rw [b18, e2] at c3
        omega
    simp only [hb_X0_tryBelow_0, hb_X0_tryBelow_9, hc_iconst, hc_lconst, hc_iload, hc_lload, hc_aload, hc_istore, hc_astore, hc_lstore, hc_iinc, hc_dup, hc_dup2, hc_pop, hc_iadd, hc_isub, hc_imul, hc_iaddw, hc_isubw, hc_imulw, hc_inegw, hc_idiv, hc_irem, hc_ineg, hc_b2, hc_b1, hc_i2l, hc_l2i, hc_ladd, hc_l2, hc_lsh, hc_lcmp, hc_if, hc_icmp, hc_jump, hc_getI, hc_getR, hc_putI, hc_putZ, hc_xald, hc_iast, hc_bast, hc_zast, hc_aald, hc_alen, hc_copy, hc_gets, hc_getsI, hc_sald, hc_ldcs, hc_sval, hc_scod, hc_slen, hc_sbald, hc_callI, hc_callL, hc_callV, hc_max, hc_min, hc_abs, hc_ireturn, hc_zreturn, hc_creturn, hc_lreturn, hc_return, hc_none, hc_switch, hv_sw, hv_get, hv_set, hv_set2, hv_mask, hv_fr, hv_noL, hv_pop, hv_pk, hv_isO, hv_isS, hv_any, hv_w, hv_cat, he_nil, he_i, he_r, he_l, hv_repl_0, hv_repl_s, if_true, if_false, and_true, true_and, and_self, Nat.zero_add, Nat.add_zero, Nat.reduceAdd, Nat.reduceLeDiff, List.length_cons, List.length_nil, Int.toNat_natCast, Bool.false_eq_true, reduceIte, Int.toNat_zero, Int.toNat_one, Int.reduceToNat, or_true, true_or, Int.reduceEq, Int.reduceLT, Int.reduceLE, Int.reduceNeg, Int.reduceAdd, Int.reduceSub, Int.reduceMul, Nat.reduceMul, Nat.reduceEqDiff, implies_true, false_implies, true_implies, not_true_eq_false, not_false_eq_true, ne_eq, or_false, false_or, and_false, false_and, or_self, Classical.not_not, Int.zero_add, Int.add_zero, lc_0, lc_22, lc_730, lc_902, lc_1074, lc_1447, lc_1824, lc_2081, lc_2135, lc_4258, lc_5723, lr_0, lt_14, ll_14, lr_2, lr_4, lr_5, lr_6, lr_7, lr_8, lt_1820, ll_1820, lr_9, lt_1822, ll_1822, lr_10, lr_11, lr_12, lr_13, lr_22, lt_30, ll_30, lr_1824, lt_1825, ll_1825, lr_2081, lt_2086, ll_2086, lr_2082, lt_2102, ll_2102, lr_2083, lt_2118, ll_2118, lr_2135, lt_2137, ll_2137, lr_4263, lt_4265, ll_4265, lr_5725, lt_5755, ll_5755, lr_5726, lt_5763, ll_5763, lr_5727, lt_5771, ll_5771, lr_5728, lt_6091, ll_6091, lr_5729, lt_6227, ll_6227, lr_5731, lt_6363, ll_6363, lr_5732, lt_6733, ll_6733, lr_5743, lt_7433, ll_7433, lr_5744, lt_7435, ll_7435, lr_5745, lt_7805, ll_7805, lr_5746, lt_7809, ll_7809, lr_5747, lt_8065, ll_8065, lr_5748, lt_8165, ll_8165, lr_5750, lt_8265, ll_8265, lr_5751, lt_8267, ll_8267, lr_5752, lt_8539, ll_8539, lr_5753, lt_9279, ll_9279, lr_731, lt_733, ll_733, lr_732, lt_899, ll_899, lr_903, lt_905, ll_905, lr_904, lt_1071, ll_1071, lr_1074, lt_1086, ll_1086, lr_1082, lt_1088, ll_1088, lr_1088, lt_1090, ll_1090, lr_1089, lt_1098, ll_1098, lr_1083, lt_1106, ll_1106, lr_1106, lt_1108, ll_1108, lr_1107, lt_1116, ll_1116, lr_1084, lt_1124, ll_1124, lr_1124, lt_1126, ll_1126, lr_1125, lt_1134, ll_1134, lr_1085, lt_1142, ll_1142, lr_1142, lt_1147, ll_1147, lr_1143, lt_1207, ll_1207, lr_1144, lt_1267, ll_1267, lr_1145, lt_1327, ll_1327, lr_1146, lt_1387, ll_1387, lr_1447, lt_1459, ll_1459, lr_1455, lt_1461, ll_1461, lr_1461, lt_1463, ll_1463, lr_1462, lt_1471, ll_1471, lr_1456, lt_1479, ll_1479, lr_1479, lt_1481, ll_1481, lr_1480, lt_1489, ll_1489, lr_1457, lt_1497, ll_1497, lr_1497, lt_1499, ll_1499, lr_1498, lt_1507, ll_1507, lr_1458, lt_1515, ll_1515, lr_1515, lt_1520, ll_1520, lr_1516, lt_1580, ll_1580, lr_1517, lt_1640, ll_1640, lr_1518, lt_1700, ll_1700, lr_1519, lt_1760, ll_1760]
    have hst : stc wt hd A w n b S = if b.2 < sw hd S A then ((S : Int), sw hd S A) else b := by
      unfold stc
      by_cases c : b.2 < sw hd S A
      · rw [if_pos c, if_pos ⟨hW, hN, c⟩]
      · rw [if_neg c, if_neg (fun g => c g.2.2)]
    rw [hb2]
    refine ⟨fun c => ?_, fun c => ?_⟩
    · rw [if_neg (by omega)] at hst
      exact cont y (fun _ _ _ => rfl) (by rw [hst]; exact hb1) (by rw [hst]; exact hb2)
    · rw [if_pos (by omega)] at hst
      exact cont _ (fun a h1 h2 => by rw [hh_upd_ne h1, hh_upd_ne h2]) (by rw [hst, hh_upd_same]) (by rw [hst, hh_upd_ne (by omega), hh_upd_same])
