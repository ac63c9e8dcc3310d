/-! the text's tokens, as functions of the tape -/
def isLt (c : Int) : Bool := decide (97 ≤ c ∧ c ≤ 122)
def isFg (c : Int) : Bool := decide (48 ≤ c ∧ c ≤ 57)
def isWs (c : Int) : Bool := decide (c = 32 ∨ c = 10)
theorem isLt_iff (c : Int) : isLt c = true ↔ 97 ≤ c ∧ c ≤ 122 := by unfold isLt; exact decide_eq_true_iff
theorem isFg_iff (c : Int) : isFg c = true ↔ 48 ≤ c ∧ c ≤ 57 := by unfold isFg; exact decide_eq_true_iff
theorem isWs_iff (c : Int) : isWs c = true ↔ c = 32 ∨ c = 10 := by unfold isWs; exact decide_eq_true_iff
def spn (P : Int → Bool) (T : Nat → Int) (L : Nat) : Nat → Nat → Nat
  | 0, p => p
  | n + 1, p => if p < L ∧ P (T p) = true then spn P T L n (p + 1) else p
/-- where a row of such bytes ends that begins at p -/
def spE (P : Int → Bool) (T : Nat → Int) (L p : Nat) : Nat := spn P T L (L - p) p
theorem spE_on {P : Int → Bool} {T : Nat → Int} {L p : Nat} (h : p < L) (hP : P (T p) = true) : spE P T L p = spE P T L (p + 1) := by
  unfold spE
  rw [show L - p = (L - (p + 1)) + 1 by omega]
  exact if_pos ⟨h, hP⟩
theorem spE_off {P : Int → Bool} {T : Nat → Int} {L p : Nat} (h : ¬ (p < L ∧ P (T p) = true)) : spE P T L p = p := by
  unfold spE
  generalize L - p = n
  cases n with
  | zero => rfl
  | succ n => exact if_neg h
theorem spn_b {P : Int → Bool} {T : Nat → Int} {L : Nat} : ∀ n p, p ≤ L → p ≤ spn P T L n p ∧ spn P T L n p ≤ L
  | 0, p, h => ⟨Nat.le_refl _, h⟩
  | n + 1, p, h => by
    show p ≤ (if p < L ∧ P (T p) = true then spn P T L n (p + 1) else p) ∧ (if p < L ∧ P (T p) = true then spn P T L n (p + 1) else p) ≤ L
    split
    · rename_i c
      have := spn_b (P := P) (T := T) (L := L) n (p + 1) (by omega)
      omega
    · omega
theorem spE_b {P : Int → Bool} {T : Nat → Int} {L p : Nat} (h : p ≤ L) : p ≤ spE P T L p ∧ spE P T L p ≤ L := spn_b _ _ h
def dgV (T : Nat → Int) (f : Nat) : Nat → Int
  | 0 => 0
  | n + 1 => dgV T f n * 10 + (T (f + n) - 48)
def tSt (T : Nat → Int) (L p : Nat) : Nat := spE isWs T L p
def nFi (T : Nat → Int) (L p : Nat) : Nat := if T (tSt T L p) = 45 then tSt T L p + 1 else tSt T L p
def nEn (T : Nat → Int) (L p : Nat) : Nat := spE isFg T L (nFi T L p)
def tNu (T : Nat → Int) (L p : Nat) : Prop := isFg (T (tSt T L p)) = true ∨ T (tSt T L p) = 45
def tNd (T : Nat → Int) (L p : Nat) : Nat := if L ≤ tSt T L p then tSt T L p else if isLt (T (tSt T L p)) = true then spE isLt T L (tSt T L p) else if isFg (T (tSt T L p)) = true ∨ T (tSt T L p) = 45 then nEn T L p else tSt T L p + 1
def nKi (T : Nat → Int) (L p : Nat) : Int := if 1 ≤ nEn T L p - nFi T L p ∧ nEn T L p - nFi T L p ≤ 3 then 2 else 4
def tKi (T : Nat → Int) (L p : Nat) : Int := if L ≤ tSt T L p then 0 else if isLt (T (tSt T L p)) = true then 1 else if isFg (T (tSt T L p)) = true ∨ T (tSt T L p) = 45 then nKi T L p else if T (tSt T L p) = 59 then 3 else 4
def tVa (T : Nat → Int) (L p : Nat) : Int := if T (tSt T L p) = 45 then - dgV T (nFi T L p) (nEn T L p - nFi T L p) else dgV T (nFi T L p) (nEn T L p - nFi T L p)
def okTp (T : Nat → Int) (L : Nat) : Prop := L ≤ 700 ∧ ∀ j, j < L → 0 ≤ T j ∧ T j < 256
theorem tSt_b {T : Nat → Int} {L p : Nat} (h : p ≤ L) : p ≤ tSt T L p ∧ tSt T L p ≤ L := spE_b h
theorem nFi_b {T : Nat → Int} {L p : Nat} (h : tSt T L p < L) : tSt T L p ≤ nFi T L p ∧ nFi T L p ≤ tSt T L p + 1 ∧ nFi T L p ≤ L := by
  unfold nFi; split <;> omega
theorem nEn_b {T : Nat → Int} {L p : Nat} (h : tSt T L p < L) : nFi T L p ≤ nEn T L p ∧ nEn T L p ≤ L := spE_b (nFi_b h).2.2
theorem tNd_b {T : Nat → Int} {L p : Nat} (h : p ≤ L) : tSt T L p ≤ tNd T L p ∧ tNd T L p ≤ L := by
  have h1 := tSt_b (T := T) h
  unfold tNd
  split
  · omega
  · rename_i c
    have h2 := nFi_b (T := T) (p := p) (show tSt T L p < L by omega)
    have h3 := nEn_b (T := T) (p := p) (show tSt T L p < L by omega)
    have h4 := spE_b (P := isLt) (T := T) (p := tSt T L p) h1.2
    split
    · omega
    · split <;> omega
theorem spn_fg {P : Int → Bool} {T : Nat → Int} {L : Nat} : ∀ n p, p ≤ L → ∀ j, p ≤ j → j < spn P T L n p → P (T j) = true
  | 0, p, _, j, h1, h2 => by have h2 : j < p := h2; omega
  | n + 1, p, h, j, h1, h2 => by
    have h2 : j < (if p < L ∧ P (T p) = true then spn P T L n (p + 1) else p) := h2
    split at h2
    · rename_i c
      by_cases e : j = p
      · rw [e]; exact c.2
      · exact spn_fg n (p + 1) (by omega) j (by omega) h2
    · omega
theorem dgV_b {T : Nat → Int} {f : Nat} : ∀ n, n ≤ 3 → (∀ j, j < n → 48 ≤ T (f + j) ∧ T (f + j) ≤ 57) → 0 ≤ dgV T f n ∧ dgV T f n ≤ 999 ∧ (n ≤ 2 → dgV T f n ≤ 99) ∧ (n ≤ 1 → dgV T f n ≤ 9) ∧ (n = 0 → dgV T f n = 0)
  | 0, _, _ => by show (0 : Int) ≤ 0 ∧ (0 : Int) ≤ 999 ∧ ((0 : Nat) ≤ 2 → (0 : Int) ≤ 99) ∧ ((0 : Nat) ≤ 1 → (0 : Int) ≤ 9) ∧ ((0 : Nat) = 0 → (0 : Int) = 0); omega
  | n + 1, hn, h => by
    have ih := dgV_b n (by omega) (fun j hj => h j (by omega))
    have d := h n (by omega)
    show 0 ≤ dgV T f n * 10 + (T (f + n) - 48) ∧ dgV T f n * 10 + (T (f + n) - 48) ≤ 999 ∧ (n + 1 ≤ 2 → dgV T f n * 10 + (T (f + n) - 48) ≤ 99) ∧ (n + 1 ≤ 1 → dgV T f n * 10 + (T (f + n) - 48) ≤ 9) ∧ (n + 1 = 0 → dgV T f n * 10 + (T (f + n) - 48) = 0)
    omega
/-- the class's bytes have signs -/
def sgb (c : Int) : Int := if c < 128 then c else c - 256
theorem sgb_b {c : Int} (h : 0 ≤ c ∧ c < 256) : -128 ≤ sgb c ∧ sgb c < 128 ∧ (sgb c = c ∧ c < 128 ∨ sgb c = c - 256 ∧ 128 ≤ c) := by
  unfold sgb; split <;> omega
def tpC (T : Nat → Int) (L : Nat) (x : hm) : Prop := x 23 = L ∧ ∀ j, j < L → x (30 + j) = sgb (T j)
def tpR (T : Nat → Int) (L : Nat) (x : hm) : Prop := x 5735 = L ∧ ∀ j, j < L → x (6733 + j) = T j
theorem tpC.c {T : Nat → Int} {L : Nat} {x y : hm} (hL : L ≤ 700) (h : tpC T L x) (hf : ∀ a, a = 23 ∨ (30 ≤ a ∧ a < 730) → y a = x a) : tpC T L y := ⟨by rw [hf 23 (by omega)]; exact h.1, fun j hj => by rw [hf _ (by omega)]; exact h.2 j hj⟩
theorem tpR.c {T : Nat → Int} {L : Nat} {x y : hm} (hL : L ≤ 700) (h : tpR T L x) (hf : ∀ a, a = 5735 ∨ (6733 ≤ a ∧ a < 7433) → y a = x a) : tpR T L y := ⟨by rw [hf 5735 (by omega)]; exact h.1, fun j hj => by rw [hf _ (by omega)]; exact h.2 j hj⟩
/-! tokens, the class -/
theorem sp_isLetterC (l : Launch) {x : hm} {c : Int} {Q : Int → hm → Prop} (h1 : 97 ≤ c → c ≤ 122 → Q 1 x) (h0 : ¬ (97 ≤ c ∧ c ≤ 122) → Q 0 x) : hm_I l m_X5_isLetter 1 [Vi c] x Q := by
  refine hr_X5_isLetter l (Nat.le_of_ble_eq_true rfl) ?_
  simp only [hb_X5_isLetter_17, hb_X5_isLetter_16, hb_X5_isLetter_12, hb_X5_isLetter_6, hb_X5_isLetter_0, hc_iconst, hc_lconst, hc_iload, hc_lload, hc_aload, hc_istore, hc_astore, hc_lstore, hc_iinc, hc_dup, hc_dup2, hc_pop, hc_iadd, hc_isub, hc_imul, hc_iaddw, hc_isubw, hc_imulw, hc_inegw, hc_idiv, hc_irem, hc_ineg, hc_b2, hc_b1, hc_i2l, hc_l2i, hc_ladd, hc_l2, hc_lsh, hc_lcmp, hc_if, hc_icmp, hc_jump, hc_getI, hc_getR, hc_putI, hc_putZ, hc_xald, hc_iast, hc_bast, hc_zast, hc_aald, hc_alen, hc_copy, hc_gets, hc_getsI, hc_sald, hc_ldcs, hc_sval, hc_scod, hc_slen, hc_sbald, hc_callI, hc_callL, hc_callV, hc_max, hc_min, hc_abs, hc_ireturn, hc_zreturn, hc_creturn, hc_lreturn, hc_return, hc_none, hc_switch, hv_sw, hv_get, hv_set, hv_set2, hv_mask, hv_fr, hv_noL, hv_pop, hv_pk, hv_isO, hv_isS, hv_any, hv_w, hv_cat, he_nil, he_i, he_r, he_l, hv_repl_0, hv_repl_s, if_true, if_false, and_true, true_and, and_self, Nat.zero_add, Nat.add_zero, Nat.reduceAdd, Nat.reduceLeDiff, List.length_cons, List.length_nil, Int.toNat_natCast, Bool.false_eq_true, reduceIte, Int.toNat_zero, Int.toNat_one, Int.reduceToNat, or_true, true_or, Int.reduceEq, Int.reduceLT, Int.reduceLE, Int.reduceNeg, Int.reduceAdd, Int.reduceSub, Int.reduceMul, Nat.reduceMul, Nat.reduceEqDiff, implies_true, false_implies, true_implies, not_true_eq_false, not_false_eq_true, ne_eq, or_false, false_or, and_false, false_and, or_self, Classical.not_not, Int.zero_add, Int.add_zero, lc_0, lc_22, lc_730, lc_902, lc_1074, lc_1447, lc_1824, lc_2081, lc_2135, lc_4258, lc_5723, lr_0, lt_14, ll_14, lr_2, lr_4, lr_5, lr_6, lr_7, lr_8, lt_1820, ll_1820, lr_9, lt_1822, ll_1822, lr_10, lr_11, lr_12, lr_13, lr_22, lt_30, ll_30, lr_1824, lt_1825, ll_1825, lr_2081, lt_2086, ll_2086, lr_2082, lt_2102, ll_2102, lr_2083, lt_2118, ll_2118, lr_2135, lt_2137, ll_2137, lr_4263, lt_4265, ll_4265, lr_5725, lt_5755, ll_5755, lr_5726, lt_5763, ll_5763, lr_5727, lt_5771, ll_5771, lr_5728, lt_6091, ll_6091, lr_5729, lt_6227, ll_6227, lr_5731, lt_6363, ll_6363, lr_5732, lt_6733, ll_6733, lr_5743, lt_7433, ll_7433, lr_5744, lt_7435, ll_7435, lr_5745, lt_7805, ll_7805, lr_5746, lt_7809, ll_7809, lr_5747, lt_8065, ll_8065, lr_5748, lt_8165, ll_8165, lr_5750, lt_8265, ll_8265, lr_5751, lt_8267, ll_8267, lr_5752, lt_8539, ll_8539, lr_5753, lt_9279, ll_9279, lr_731, lt_733, ll_733, lr_732, lt_899, ll_899, lr_903, lt_905, ll_905, lr_904, lt_1071, ll_1071, lr_1074, lt_1086, ll_1086, lr_1082, lt_1088, ll_1088, lr_1088, lt_1090, ll_1090, lr_1089, lt_1098, ll_1098, lr_1083, lt_1106, ll_1106, lr_1106, lt_1108, ll_1108, lr_1107, lt_1116, ll_1116, lr_1084, lt_1124, ll_1124, lr_1124, lt_1126, ll_1126, lr_1125, lt_1134, ll_1134, lr_1085, lt_1142, ll_1142, lr_1142, lt_1147, ll_1147, lr_1143, lt_1207, ll_1207, lr_1144, lt_1267, ll_1267, lr_1145, lt_1327, ll_1327, lr_1146, lt_1387, ll_1387, lr_1447, lt_1459, ll_1459, lr_1455, lt_1461, ll_1461, lr_1461, lt_1463, ll_1463, lr_1462, lt_1471, ll_1471, lr_1456, lt_1479, ll_1479, lr_1479, lt_1481, ll_1481, lr_1480, lt_1489, ll_1489, lr_1457, lt_1497, ll_1497, lr_1497, lt_1499, ll_1499, lr_1498, lt_1507, ll_1507, lr_1458, lt_1515, ll_1515, lr_1515, lt_1520, ll_1520, lr_1516, lt_1580, ll_1580, lr_1517, lt_1640, ll_1640, lr_1518, lt_1700, ll_1700, lr_1519, lt_1760, ll_1760]
  exact ⟨fun g => h0 (by omega), fun g => ⟨fun g2 => h0 (by omega), fun g2 => h1 (by omega) (by omega)⟩⟩
theorem sp_isFigureC (l : Launch) {x : hm} {c : Int} {Q : Int → hm → Prop} (h1 : 48 ≤ c → c ≤ 57 → Q 1 x) (h0 : ¬ (48 ≤ c ∧ c ≤ 57) → Q 0 x) : hm_I l m_X5_isFigure 1 [Vi c] x Q := by
  refine hr_X5_isFigure l (Nat.le_of_ble_eq_true rfl) ?_
  simp only [hb_X5_isFigure_17, hb_X5_isFigure_16, hb_X5_isFigure_12, hb_X5_isFigure_6, hb_X5_isFigure_0, hc_iconst, hc_lconst, hc_iload, hc_lload, hc_aload, hc_istore, hc_astore, hc_lstore, hc_iinc, hc_dup, hc_dup2, hc_pop, hc_iadd, hc_isub, hc_imul, hc_iaddw, hc_isubw, hc_imulw, hc_inegw, hc_idiv, hc_irem, hc_ineg, hc_b2, hc_b1, hc_i2l, hc_l2i, hc_ladd, hc_l2, hc_lsh, hc_lcmp, hc_if, hc_icmp, hc_jump, hc_getI, hc_getR, hc_putI, hc_putZ, hc_xald, hc_iast, hc_bast, hc_zast, hc_aald, hc_alen, hc_copy, hc_gets, hc_getsI, hc_sald, hc_ldcs, hc_sval, hc_scod, hc_slen, hc_sbald, hc_callI, hc_callL, hc_callV, hc_max, hc_min, hc_abs, hc_ireturn, hc_zreturn, hc_creturn, hc_lreturn, hc_return, hc_none, hc_switch, hv_sw, hv_get, hv_set, hv_set2, hv_mask, hv_fr, hv_noL, hv_pop, hv_pk, hv_isO, hv_isS, hv_any, hv_w, hv_cat, he_nil, he_i, he_r, he_l, hv_repl_0, hv_repl_s, if_true, if_false, and_true, true_and, and_self, Nat.zero_add, Nat.add_zero, Nat.reduceAdd, Nat.reduceLeDiff, List.length_cons, List.length_nil, Int.toNat_natCast, Bool.false_eq_true, reduceIte, Int.toNat_zero, Int.toNat_one, Int.reduceToNat, or_true, true_or, Int.reduceEq, Int.reduceLT, Int.reduceLE, Int.reduceNeg, Int.reduceAdd, Int.reduceSub, Int.reduceMul, Nat.reduceMul, Nat.reduceEqDiff, implies_true, false_implies, true_implies, not_true_eq_false, not_false_eq_true, ne_eq, or_false, false_or, and_false, false_and, or_self, Classical.not_not, Int.zero_add, Int.add_zero, lc_0, lc_22, lc_730, lc_902, lc_1074, lc_1447, lc_1824, lc_2081, lc_2135, lc_4258, lc_5723, lr_0, lt_14, ll_14, lr_2, lr_4, lr_5, lr_6, lr_7, lr_8, lt_1820, ll_1820, lr_9, lt_1822, ll_1822, lr_10, lr_11, lr_12, lr_13, lr_22, lt_30, ll_30, lr_1824, lt_1825, ll_1825, lr_2081, lt_2086, ll_2086, lr_2082, lt_2102, ll_2102, lr_2083, lt_2118, ll_2118, lr_2135, lt_2137, ll_2137, lr_4263, lt_4265, ll_4265, lr_5725, lt_5755, ll_5755, lr_5726, lt_5763, ll_5763, lr_5727, lt_5771, ll_5771, lr_5728, lt_6091, ll_6091, lr_5729, lt_6227, ll_6227, lr_5731, lt_6363, ll_6363, lr_5732, lt_6733, ll_6733, lr_5743, lt_7433, ll_7433, lr_5744, lt_7435, ll_7435, lr_5745, lt_7805, ll_7805, lr_5746, lt_7809, ll_7809, lr_5747, lt_8065, ll_8065, lr_5748, lt_8165, ll_8165, lr_5750, lt_8265, ll_8265, lr_5751, lt_8267, ll_8267, lr_5752, lt_8539, ll_8539, lr_5753, lt_9279, ll_9279, lr_731, lt_733, ll_733, lr_732, lt_899, ll_899, lr_903, lt_905, ll_905, lr_904, lt_1071, ll_1071, lr_1074, lt_1086, ll_1086, lr_1082, lt_1088, ll_1088, lr_1088, lt_1090, ll_1090, lr_1089, lt_1098, ll_1098, lr_1083, lt_1106, ll_1106, lr_1106, lt_1108, ll_1108, lr_1107, lt_1116, ll_1116, lr_1084, lt_1124, ll_1124, lr_1124, lt_1126, ll_1126, lr_1125, lt_1134, ll_1134, lr_1085, lt_1142, ll_1142, lr_1142, lt_1147, ll_1147, lr_1143, lt_1207, ll_1207, lr_1144, lt_1267, ll_1267, lr_1145, lt_1327, ll_1327, lr_1146, lt_1387, ll_1387, lr_1447, lt_1459, ll_1459, lr_1455, lt_1461, ll_1461, lr_1461, lt_1463, ll_1463, lr_1462, lt_1471, ll_1471, lr_1456, lt_1479, ll_1479, lr_1479, lt_1481, ll_1481, lr_1480, lt_1489, ll_1489, lr_1457, lt_1497, ll_1497, lr_1497, lt_1499, ll_1499, lr_1498, lt_1507, ll_1507, lr_1458, lt_1515, ll_1515, lr_1515, lt_1520, ll_1520, lr_1516, lt_1580, ll_1580, lr_1517, lt_1640, ll_1640, lr_1518, lt_1700, ll_1700, lr_1519, lt_1760, ll_1760]
  exact ⟨fun g => h0 (by omega), fun g => ⟨fun g2 => h0 (by omega), fun g2 => h1 (by omega) (by omega)⟩⟩
theorem sp_takeName (l : Launch) {T : Nat → Int} {L : Nat} (hO : okTp T L) {x : hm} (hT : tpC T L x) {s : Nat} (hs : s ≤ L) (h26 : x 26 = s) {Q : hm → Prop} (h : ∀ y : hm, y 24 = 1 → y 26 = spE isLt T L s → (∀ a, a ≠ 24 → a ≠ 26 → y a = x a) → Q y) : hm_V l m_X5_takeName 2 [Vr 22] x Q := by
  obtain ⟨hL, hb⟩ := hO
  refine hr_X5_takeName l (Nat.le_of_ble_eq_true rfl) ?_
  intro At h5
  simp only [hb_X5_takeName_0, hc_iconst, hc_lconst, hc_iload, hc_lload, hc_aload, hc_istore, hc_astore, hc_lstore, hc_iinc, hc_dup, hc_dup2, hc_pop, hc_iadd, hc_isub, hc_imul, hc_iaddw, hc_isubw, hc_imulw, hc_inegw, hc_idiv, hc_irem, hc_ineg, hc_b2, hc_b1, hc_i2l, hc_l2i, hc_ladd, hc_l2, hc_lsh, hc_lcmp, hc_if, hc_icmp, hc_jump, hc_getI, hc_getR, hc_putI, hc_putZ, hc_xald, hc_iast, hc_bast, hc_zast, hc_aald, hc_alen, hc_copy, hc_gets, hc_getsI, hc_sald, hc_ldcs, hc_sval, hc_scod, hc_slen, hc_sbald, hc_callI, hc_callL, hc_callV, hc_max, hc_min, hc_abs, hc_ireturn, hc_zreturn, hc_creturn, hc_lreturn, hc_return, hc_none, hc_switch, hv_sw, hv_get, hv_set, hv_set2, hv_mask, hv_fr, hv_noL, hv_pop, hv_pk, hv_isO, hv_isS, hv_any, hv_w, hv_cat, he_nil, he_i, he_r, he_l, hv_repl_0, hv_repl_s, if_true, if_false, and_true, true_and, and_self, Nat.zero_add, Nat.add_zero, Nat.reduceAdd, Nat.reduceLeDiff, List.length_cons, List.length_nil, Int.toNat_natCast, Bool.false_eq_true, reduceIte, Int.toNat_zero, Int.toNat_one, Int.reduceToNat, or_true, true_or, Int.reduceEq, Int.reduceLT, Int.reduceLE, Int.reduceNeg, Int.reduceAdd, Int.reduceSub, Int.reduceMul, Nat.reduceMul, Nat.reduceEqDiff, implies_true, false_implies, true_implies, not_true_eq_false, not_false_eq_true, ne_eq, or_false, false_or, and_false, false_and, or_self, Classical.not_not, Int.zero_add, Int.add_zero, lc_0, lc_22, lc_730, lc_902, lc_1074, lc_1447, lc_1824, lc_2081, lc_2135, lc_4258, lc_5723, lr_0, lt_14, ll_14, lr_2, lr_4, lr_5, lr_6, lr_7, lr_8, lt_1820, ll_1820, lr_9, lt_1822, ll_1822, lr_10, lr_11, lr_12, lr_13, lr_22, lt_30, ll_30, lr_1824, lt_1825, ll_1825, lr_2081, lt_2086, ll_2086, lr_2082, lt_2102, ll_2102, lr_2083, lt_2118, ll_2118, lr_2135, lt_2137, ll_2137, lr_4263, lt_4265, ll_4265, lr_5725, lt_5755, ll_5755, lr_5726, lt_5763, ll_5763, lr_5727, lt_5771, ll_5771, lr_5728, lt_6091, ll_6091, lr_5729, lt_6227, ll_6227, lr_5731, lt_6363, ll_6363, lr_5732, lt_6733, ll_6733, lr_5743, lt_7433, ll_7433, lr_5744, lt_7435, ll_7435, lr_5745, lt_7805, ll_7805, lr_5746, lt_7809, ll_7809, lr_5747, lt_8065, ll_8065, lr_5748, lt_8165, ll_8165, lr_5750, lt_8265, ll_8265, lr_5751, lt_8267, ll_8267, lr_5752, lt_8539, ll_8539, lr_5753, lt_9279, ll_9279, lr_731, lt_733, ll_733, lr_732, lt_899, ll_899, lr_903, lt_905, ll_905, lr_904, lt_1071, ll_1071, lr_1074, lt_1086, ll_1086, lr_1082, lt_1088, ll_1088, lr_1088, lt_1090, ll_1090, lr_1089, lt_1098, ll_1098, lr_1083, lt_1106, ll_1106, lr_1106, lt_1108, ll_1108, lr_1107, lt_1116, ll_1116, lr_1084, lt_1124, ll_1124, lr_1124, lt_1126, ll_1126, lr_1125, lt_1134, ll_1134, lr_1085, lt_1142, ll_1142, lr_1142, lt_1147, ll_1147, lr_1143, lt_1207, ll_1207, lr_1144, lt_1267, ll_1267, lr_1145, lt_1327, ll_1327, lr_1146, lt_1387, ll_1387, lr_1447, lt_1459, ll_1459, lr_1455, lt_1461, ll_1461, lr_1461, lt_1463, ll_1463, lr_1462, lt_1471, ll_1471, lr_1456, lt_1479, ll_1479, lr_1479, lt_1481, ll_1481, lr_1480, lt_1489, ll_1489, lr_1457, lt_1497, ll_1497, lr_1497, lt_1499, ll_1499, lr_1498, lt_1507, ll_1507, lr_1458, lt_1515, ll_1515, lr_1515, lt_1520, ll_1520, lr_1516, lt_1580, ll_1580, lr_1517, lt_1640, ll_1640, lr_1518, lt_1700, ll_1700, lr_1519, lt_1760, ll_1760]
  have main : ∀ q : Nat × hm, (q.1 ≤ L ∧ q.2 24 = 1 ∧ q.2 26 = q.1 ∧ spE isLt T L q.1 = spE isLt T L s ∧ ∀ a, a ≠ 24 → a ≠ 26 → q.2 a = x a) → At 5 [some (Vr 22)] [] q.2 := by
    refine lp_m (fun q : Nat × hm => L - q.1) ?_
    rintro ⟨p, v⟩ ⟨a0, a1, a2, a3, a4⟩ ih
    dsimp only at a0 a1 a2 a3 a4
    have tv : tpC T L v := hT.c hL (fun a ha => a4 a (by omega) (by omega))
    refine h5 _ _ _ ?_
    simp only [hb_X5_takeName_44, hb_X5_takeName_31, hb_X5_takeName_16, hb_X5_takeName_5, hb_X5_takeName_0, hc_iconst, hc_lconst, hc_iload, hc_lload, hc_aload, hc_istore, hc_astore, hc_lstore, hc_iinc, hc_dup, hc_dup2, hc_pop, hc_iadd, hc_isub, hc_imul, hc_iaddw, hc_isubw, hc_imulw, hc_inegw, hc_idiv, hc_irem, hc_ineg, hc_b2, hc_b1, hc_i2l, hc_l2i, hc_ladd, hc_l2, hc_lsh, hc_lcmp, hc_if, hc_icmp, hc_jump, hc_getI, hc_getR, hc_putI, hc_putZ, hc_xald, hc_iast, hc_bast, hc_zast, hc_aald, hc_alen, hc_copy, hc_gets, hc_getsI, hc_sald, hc_ldcs, hc_sval, hc_scod, hc_slen, hc_sbald, hc_callI, hc_callL, hc_callV, hc_max, hc_min, hc_abs, hc_ireturn, hc_zreturn, hc_creturn, hc_lreturn, hc_return, hc_none, hc_switch, hv_sw, hv_get, hv_set, hv_set2, hv_mask, hv_fr, hv_noL, hv_pop, hv_pk, hv_isO, hv_isS, hv_any, hv_w, hv_cat, he_nil, he_i, he_r, he_l, hv_repl_0, hv_repl_s, if_true, if_false, and_true, true_and, and_self, Nat.zero_add, Nat.add_zero, Nat.reduceAdd, Nat.reduceLeDiff, List.length_cons, List.length_nil, Int.toNat_natCast, Bool.false_eq_true, reduceIte, Int.toNat_zero, Int.toNat_one, Int.reduceToNat, or_true, true_or, Int.reduceEq, Int.reduceLT, Int.reduceLE, Int.reduceNeg, Int.reduceAdd, Int.reduceSub, Int.reduceMul, Nat.reduceMul, Nat.reduceEqDiff, implies_true, false_implies, true_implies, not_true_eq_false, not_false_eq_true, ne_eq, or_false, false_or, and_false, false_and, or_self, Classical.not_not, Int.zero_add, Int.add_zero, lc_0, lc_22, lc_730, lc_902, lc_1074, lc_1447, lc_1824, lc_2081, lc_2135, lc_4258, lc_5723, lr_0, lt_14, ll_14, lr_2, lr_4, lr_5, lr_6, lr_7, lr_8, lt_1820, ll_1820, lr_9, lt_1822, ll_1822, lr_10, lr_11, lr_12, lr_13, lr_22, lt_30, ll_30, lr_1824, lt_1825, ll_1825, lr_2081, lt_2086, ll_2086, lr_2082, lt_2102, ll_2102, lr_2083, lt_2118, ll_2118, lr_2135, lt_2137, ll_2137, lr_4263, lt_4265, ll_4265, lr_5725, lt_5755, ll_5755, lr_5726, lt_5763, ll_5763, lr_5727, lt_5771, ll_5771, lr_5728, lt_6091, ll_6091, lr_5729, lt_6227, ll_6227, lr_5731, lt_6363, ll_6363, lr_5732, lt_6733, ll_6733, lr_5743, lt_7433, ll_7433, lr_5744, lt_7435, ll_7435, lr_5745, lt_7805, ll_7805, lr_5746, lt_7809, ll_7809, lr_5747, lt_8065, ll_8065, lr_5748, lt_8165, ll_8165, lr_5750, lt_8265, ll_8265, lr_5751, lt_8267, ll_8267, lr_5752, lt_8539, ll_8539, lr_5753, lt_9279, ll_9279, lr_731, lt_733, ll_733, lr_732, lt_899, ll_899, lr_903, lt_905, ll_905, lr_904, lt_1071, ll_1071, lr_1074, lt_1086, ll_1086, lr_1082, lt_1088, ll_1088, lr_1088, lt_1090, ll_1090, lr_1089, lt_1098, ll_1098, lr_1083, lt_1106, ll_1106, lr_1106, lt_1108, ll_1108, lr_1107, lt_1116, ll_1116, lr_1084, lt_1124, ll_1124, lr_1124, lt_1126, ll_1126, lr_1125, lt_1134, ll_1134, lr_1085, lt_1142, ll_1142, lr_1142, lt_1147, ll_1147, lr_1143, lt_1207, ll_1207, lr_1144, lt_1267, ll_1267, lr_1145, lt_1327, ll_1327, lr_1146, lt_1387, ll_1387, lr_1447, lt_1459, ll_1459, lr_1455, lt_1461, ll_1461, lr_1461, lt_1463, ll_1463, lr_1462, lt_1471, ll_1471, lr_1456, lt_1479, ll_1479, lr_1479, lt_1481, ll_1481, lr_1480, lt_1489, ll_1489, lr_1457, lt_1497, ll_1497, lr_1497, lt_1499, ll_1499, lr_1498, lt_1507, ll_1507, lr_1458, lt_1515, ll_1515, lr_1515, lt_1520, ll_1520, lr_1516, lt_1580, ll_1580, lr_1517, lt_1640, ll_1640, lr_1518, lt_1700, ll_1700, lr_1519, lt_1760, ll_1760]
    rw [a2, tv.1, Int.toNat_natCast]
    refine ⟨fun g => h v a1 (by rw [a2, ← a3, spE_off (by omega)]) a4, fun g => ⟨⟨by omega, by omega⟩, ?_⟩⟩
    have hp : p < L := by omega
    have tb := hb p hp
    have sbb := sgb_b tb
    rw [tv.2 p hp]
    refine sp_isLetterC l (fun g1 g2 => ⟨fun e => absurd e (by decide), fun _ => ⟨⟨by omega, by omega⟩, ?_⟩⟩) (fun g1 => ⟨fun _ => h v a1 (by rw [a2, ← a3, spE_off (fun c => g1 (by have := (isLt_iff _).mp c.2; omega))]) a4, fun e => absurd rfl e⟩)
    rw [a2]
    exact ih (p + 1, hh_upd v 26 ((p : Int) + 1)) ⟨by show p + 1 ≤ L; omega, by dsimp only; rw [hh_upd_ne (by omega)]; exact a1, by dsimp only; rw [hh_upd_same]; omega, by show spE isLt T L (p + 1) = _; rw [← a3]; exact (spE_on hp ((isLt_iff _).mpr (by omega))).symm, fun a c1 c2 => by dsimp only; rw [hh_upd_ne c2]; exact a4 a c1 c2⟩ (by show L - (p + 1) < L - p; omega)
  exact main (s, hh_upd x 24 1) ⟨hs, by dsimp only; rw [hh_upd_same], by dsimp only; rw [hh_upd_ne (by omega)]; exact h26, rfl, fun a c1 _ => hh_upd_ne c1⟩
