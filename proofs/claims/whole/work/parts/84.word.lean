/-! words -/
def fw (T : Nat → Int) (s : Nat) : Nat → Int
  | 0 => 0
  | n + 1 => fw T s n * 256 + T (s + n)
def wdV (T : Nat → Int) (L p : Nat) : Int := if tKi T L p = 1 ∧ tNd T L p - tSt T L p < 8 then fw T (tSt T L p) (tNd T L p - tSt T L p) else 0
def nmIs (T : Nat → Int) (L p : Nat) (W : List Int) : Prop := tKi T L p = 1 ∧ tNd T L p - tSt T L p = W.length ∧ ∀ i, i < W.length → T (tSt T L p + i) = W.getD i 0
def cdW (W : List Int) : Int := fw (fun i => W.getD i 0) 0 W.length
theorem fw_b {T : Nat → Int} {s : Nat} : ∀ n, (∀ i, i < n → 0 ≤ T (s + i) ∧ T (s + i) < 256) → 0 ≤ fw T s n ∧ fw T s n < 256 ^ n
  | 0, _ => by show (0 : Int) ≤ 0 ∧ (0 : Int) < 1; omega
  | n + 1, h => by
    have ih := fw_b n (fun i hi => h i (by omega))
    have d := h n (by omega)
    show 0 ≤ fw T s n * 256 + T (s + n) ∧ fw T s n * 256 + T (s + n) < 256 ^ (n + 1)
    rw [Int.pow_succ]
    omega
theorem fw_pos {T : Nat → Int} {s n : Nat} (h : ∀ i, i < n + 1 → 1 ≤ T (s + i) ∧ T (s + i) < 256) : 0 < fw T s (n + 1) := by
  have b := fw_b (T := T) (s := s) n (fun i hi => by have := h i (by omega); omega)
  have d := h n (by omega)
  show 0 < fw T s n * 256 + T (s + n)
  omega
theorem fw_inj {f g : Nat → Int} {s t : Nat} : ∀ n m, (∀ i, i < n → 1 ≤ f (s + i) ∧ f (s + i) < 256) → (∀ i, i < m → 1 ≤ g (t + i) ∧ g (t + i) < 256) → fw f s n = fw g t m → n = m ∧ ∀ i, i < n → f (s + i) = g (t + i)
  | 0, 0, _, _, _ => ⟨rfl, fun i hi => absurd hi (Nat.not_lt_zero _)⟩
  | 0, m + 1, _, hg, h => by have := fw_pos hg; rw [← h] at this; exact absurd this (by show ¬ (0 : Int) < 0; omega)
  | n + 1, 0, hf, _, h => by have := fw_pos hf; rw [h] at this; exact absurd this (by show ¬ (0 : Int) < 0; omega)
  | n + 1, m + 1, hf, hg, h => by
    have h : fw f s n * 256 + f (s + n) = fw g t m * 256 + g (t + m) := h
    have df := hf n (by omega)
    have dg := hg m (by omega)
    have ih := fw_inj n m (fun i hi => hf i (by omega)) (fun i hi => hg i (by omega)) (by omega)
    refine ⟨by omega, fun i hi => ?_⟩
    by_cases c : i = n
    · subst c
      have : i = m := ih.1
      subst this
      omega
    · exact ih.2 i (by omega)
theorem tNd_lt {T : Nat → Int} {L p : Nat} (hp : p ≤ L) (h : tKi T L p = 1) : ∀ j, tSt T L p ≤ j → j < tNd T L p → 97 ≤ T j ∧ T j ≤ 122 := by
  have st := tSt_b (T := T) hp
  intro j h1 h2
  unfold tKi at h
  unfold tNd at h2
  split at h
  · omega
  · rename_i c
    rw [if_neg c] at h2
    split at h
    · rename_i c2
      rw [if_pos c2] at h2
      exact (isLt_iff _).mp (spn_fg _ _ st.2 j h1 h2)
    · split at h
      · unfold nKi at h
        split at h <;> omega
      · split at h <;> omega
theorem tNd_pos {T : Nat → Int} {L p : Nat} (hp : p ≤ L) (h : tKi T L p = 1) : tSt T L p < tNd T L p ∧ tSt T L p < L := by
  have st := tSt_b (T := T) hp
  unfold tKi at h
  unfold tNd
  split at h
  · omega
  · rename_i c
    rw [if_neg c]
    split at h
    · rename_i c2
      rw [if_pos c2, spE_on (by omega) c2]
      have := (spE_b (P := isLt) (T := T) (show tSt T L p + 1 ≤ L by omega)).1
      omega
    · split at h
      · unfold nKi at h
        split at h <;> omega
      · split at h <;> omega
theorem wdV_iff {T : Nat → Int} {L p : Nat} (hp : p ≤ L) {W : List Int} (hW : ∀ i, i < W.length → 97 ≤ W.getD i 0 ∧ W.getD i 0 ≤ 122) (hl : 1 ≤ W.length ∧ W.length ≤ 7) : wdV T L p = cdW W ↔ nmIs T L p W := by
  have hg : ∀ i, i < W.length → 1 ≤ (fun i => W.getD i 0) (0 + i) ∧ (fun i => W.getD i 0) (0 + i) < 256 := fun i hi => by
    have := hW i hi
    rw [Nat.zero_add]
    show 1 ≤ W.getD i 0 ∧ W.getD i 0 < 256
    omega
  have pos : 0 < cdW W := by
    unfold cdW
    obtain ⟨n, hn⟩ : ∃ n, W.length = n + 1 := ⟨W.length - 1, by omega⟩
    rw [hn] at hg ⊢
    exact fw_pos hg
  unfold wdV nmIs
  by_cases c : tKi T L p = 1 ∧ tNd T L p - tSt T L p < 8
  · rw [if_pos c]
    have lt := tNd_lt hp c.1
    constructor
    · intro e
      have := fw_inj _ _ (fun i hi => by have := lt (tSt T L p + i) (by omega) (by omega); omega) hg e
      refine ⟨c.1, this.1, fun i hi => ?_⟩
      have := this.2 i (by omega)
      rw [Nat.zero_add] at this
      exact this
    · rintro ⟨-, e1, e2⟩
      unfold cdW
      rw [e1]
      have key : ∀ n, n ≤ W.length → fw T (tSt T L p) n = fw (fun i => W.getD i 0) 0 n := by
        intro n
        induction n with
        | zero => intro _; rfl
        | succ n ih =>
          intro hn
          show fw T (tSt T L p) n * 256 + T (tSt T L p + n) = fw (fun i => W.getD i 0) 0 n * 256 + W.getD (0 + n) 0
          rw [ih (by omega), e2 n (by omega), Nat.zero_add]
      exact key _ (Nat.le_refl _)
  · rw [if_neg c]
    constructor
    · intro e; omega
    · rintro ⟨e0, e1, e2⟩
      exact absurd ⟨e0, by omega⟩ c
/-- a byte comes behind the others -/
theorem lsh8 {v t : Int} (hv : 0 ≤ v ∧ v < 281474976710656) (ht : 0 ≤ t ∧ t < 256) : hv_lor (hv_lshl v 8) t = v * 256 + t := by
  obtain ⟨n, rfl⟩ := Int.eq_ofNat_of_zero_le hv.1
  obtain ⟨m, rfl⟩ := Int.eq_ofNat_of_zero_le ht.1
  have e8 : ((Int32.ofInt 8).toInt64 &&& 63 : Int64) = 8 := by decide
  have hn : n < 281474976710656 := by omega
  have hm : m < 256 := by omega
  have tN : ∀ k : Nat, k < 18446744073709551616 → (Int64.ofInt (k : Int)).toBitVec.toNat = k := fun k hk => by
    show (BitVec.ofInt 64 (k : Int)).toNat = k
    rw [BitVec.toNat_ofInt]
    omega
  have h1 : hv_lshl (n : Int) 8 = ((n * 256 : Nat) : Int) := by
    unfold hv_lshl
    rw [e8]
    show (Int64.ofInt (n : Int) <<< (8 : Int64)).toBitVec.toInt = _
    rw [Int64.toBitVec_shiftLeft]
    have e9 : (8 : Int64).toBitVec.smod 64 = 8#64 := by decide
    rw [e9]
    have h2 : ((Int64.ofInt (n : Int)).toBitVec <<< 8#64).toNat = n * 256 := by
      rw [BitVec.shiftLeft_eq', BitVec.toNat_shiftLeft, tN n (by omega)]
      show n <<< 8 % 18446744073709551616 = n * 256
      rw [Nat.shiftLeft_eq]
      omega
    rw [BitVec.toInt_eq_toNat_of_lt (by rw [h2]; omega), h2]
  rw [h1]
  unfold hv_lor
  show (Int64.ofInt ((n * 256 : Nat) : Int) ||| Int64.ofInt (m : Int)).toBitVec.toInt = _
  rw [Int64.toBitVec_or]
  have h3 : ((Int64.ofInt ((n * 256 : Nat) : Int)).toBitVec ||| (Int64.ofInt (m : Int)).toBitVec).toNat = n * 256 + m := by
    rw [BitVec.toNat_or, tN _ (by omega), tN _ (by omega)]
    have e := Nat.shiftLeft_add_eq_or_of_lt (b := m) (i := 8) (by omega) n
    rw [Nat.shiftLeft_eq] at e
    exact e.symm
  rw [BitVec.toInt_eq_toNat_of_lt (by rw [h3]; omega), h3]
  omega
theorem sp_word (l : Launch) {T : Nat → Int} {L : Nat} (hO : okTp T L) {x : hm} (hT : tpR T L x) {p : Nat} (hp : p ≤ L) (hS : RS T L p x) {Q : Int → hm → Prop} (h1 : x 5741 = 0 → Q (wdV T L p) x) (h0 : ¬ x 5741 = 0 → Q 0 x) : hm_L l m_X10_word 1 [Vr 5723] x Q := by
  have hO' := hO
  obtain ⟨hL, hb⟩ := hO'
  have st := tSt_b (T := T) hp
  have nd := tNd_b (T := T) hp
  obtain ⟨r1, r2, r3, r4, r5⟩ := hS
  have kb : kR (tKi T L p) = 2 ↔ tKi T L p = 1 := by unfold kR; split <;> omega
  refine hr_X10_word l (Nat.le_of_ble_eq_true rfl) ?_
  intro At h7
  simp only [hb_X10_word_0, hc_iconst, hc_lconst, hc_iload, hc_lload, hc_aload, hc_istore, hc_astore, hc_lstore, hc_iinc, hc_dup, hc_dup2, hc_pop, hc_iadd, hc_isub, hc_imul, hc_iaddw, hc_isubw, hc_imulw, hc_inegw, hc_idiv, hc_irem, hc_ineg, hc_b2, hc_b1, hc_i2l, hc_l2i, hc_ladd, hc_l2, hc_lsh, hc_lcmp, hc_if, hc_icmp, hc_jump, hc_getI, hc_getR, hc_putI, hc_putZ, hc_xald, hc_iast, hc_bast, hc_zast, hc_aald, hc_alen, hc_copy, hc_gets, hc_getsI, hc_sald, hc_ldcs, hc_sval, hc_scod, hc_slen, hc_sbald, hc_callI, hc_callL, hc_callV, hc_max, hc_min, hc_abs, hc_ireturn, hc_zreturn, hc_creturn, hc_lreturn, hc_return, hc_none, hc_switch, hv_sw, hv_get, hv_set, hv_set2, hv_mask, hv_fr, hv_noL, hv_pop, hv_pk, hv_isO, hv_isS, hv_any, hv_w, hv_cat, he_nil, he_i, he_r, he_l, hv_repl_0, hv_repl_s, if_true, if_false, and_true, true_and, and_self, Nat.zero_add, Nat.add_zero, Nat.reduceAdd, Nat.reduceLeDiff, List.length_cons, List.length_nil, Int.toNat_natCast, Bool.false_eq_true, reduceIte, Int.toNat_zero, Int.toNat_one, Int.reduceToNat, or_true, true_or, Int.reduceEq, Int.reduceLT, Int.reduceLE, Int.reduceNeg, Int.reduceAdd, Int.reduceSub, Int.reduceMul, Nat.reduceMul, Nat.reduceEqDiff, implies_true, false_implies, true_implies, not_true_eq_false, not_false_eq_true, ne_eq, or_false, false_or, and_false, false_and, or_self, Classical.not_not, Int.zero_add, Int.add_zero, lc_0, lc_22, lc_730, lc_902, lc_1074, lc_1447, lc_1824, lc_2081, lc_2135, lc_4258, lc_5723, lr_0, lt_14, ll_14, lr_2, lr_4, lr_5, lr_6, lr_7, lr_8, lt_1820, ll_1820, lr_9, lt_1822, ll_1822, lr_10, lr_11, lr_12, lr_13, lr_22, lt_30, ll_30, lr_1824, lt_1825, ll_1825, lr_2081, lt_2086, ll_2086, lr_2082, lt_2102, ll_2102, lr_2083, lt_2118, ll_2118, lr_2135, lt_2137, ll_2137, lr_4263, lt_4265, ll_4265, lr_5725, lt_5755, ll_5755, lr_5726, lt_5763, ll_5763, lr_5727, lt_5771, ll_5771, lr_5728, lt_6091, ll_6091, lr_5729, lt_6227, ll_6227, lr_5731, lt_6363, ll_6363, lr_5732, lt_6733, ll_6733, lr_5743, lt_7433, ll_7433, lr_5744, lt_7435, ll_7435, lr_5745, lt_7805, ll_7805, lr_5746, lt_7809, ll_7809, lr_5747, lt_8065, ll_8065, lr_5748, lt_8165, ll_8165, lr_5750, lt_8265, ll_8265, lr_5751, lt_8267, ll_8267, lr_5752, lt_8539, ll_8539, lr_5753, lt_9279, ll_9279, lr_731, lt_733, ll_733, lr_732, lt_899, ll_899, lr_903, lt_905, ll_905, lr_904, lt_1071, ll_1071, lr_1074, lt_1086, ll_1086, lr_1082, lt_1088, ll_1088, lr_1088, lt_1090, ll_1090, lr_1089, lt_1098, ll_1098, lr_1083, lt_1106, ll_1106, lr_1106, lt_1108, ll_1108, lr_1107, lt_1116, ll_1116, lr_1084, lt_1124, ll_1124, lr_1124, lt_1126, ll_1126, lr_1125, lt_1134, ll_1134, lr_1085, lt_1142, ll_1142, lr_1142, lt_1147, ll_1147, lr_1143, lt_1207, ll_1207, lr_1144, lt_1267, ll_1267, lr_1145, lt_1327, ll_1327, lr_1146, lt_1387, ll_1387, lr_1447, lt_1459, ll_1459, lr_1455, lt_1461, ll_1461, lr_1461, lt_1463, ll_1463, lr_1462, lt_1471, ll_1471, lr_1456, lt_1479, ll_1479, lr_1479, lt_1481, ll_1481, lr_1480, lt_1489, ll_1489, lr_1457, lt_1497, ll_1497, lr_1497, lt_1499, ll_1499, lr_1498, lt_1507, ll_1507, lr_1458, lt_1515, ll_1515, lr_1515, lt_1520, ll_1520, lr_1516, lt_1580, ll_1580, lr_1517, lt_1640, ll_1640, lr_1518, lt_1700, ll_1700, lr_1519, lt_1760, ll_1760]
  rw [r2]
  have done : ∀ w : Int, w = wdV T L p → ∀ (lo : hv_L), lo = [some (Vr 5723), some (Vl w), none, none] → hb_X10_word_56 l At Q lo [] x := by
    intro w hw lo hlo
    subst hlo
    simp only [hb_X10_word_56, hb_X10_word_63, hb_X10_word_67, hb_X10_word_68, hc_iconst, hc_lconst, hc_iload, hc_lload, hc_aload, hc_istore, hc_astore, hc_lstore, hc_iinc, hc_dup, hc_dup2, hc_pop, hc_iadd, hc_isub, hc_imul, hc_iaddw, hc_isubw, hc_imulw, hc_inegw, hc_idiv, hc_irem, hc_ineg, hc_b2, hc_b1, hc_i2l, hc_l2i, hc_ladd, hc_l2, hc_lsh, hc_lcmp, hc_if, hc_icmp, hc_jump, hc_getI, hc_getR, hc_putI, hc_putZ, hc_xald, hc_iast, hc_bast, hc_zast, hc_aald, hc_alen, hc_copy, hc_gets, hc_getsI, hc_sald, hc_ldcs, hc_sval, hc_scod, hc_slen, hc_sbald, hc_callI, hc_callL, hc_callV, hc_max, hc_min, hc_abs, hc_ireturn, hc_zreturn, hc_creturn, hc_lreturn, hc_return, hc_none, hc_switch, hv_sw, hv_get, hv_set, hv_set2, hv_mask, hv_fr, hv_noL, hv_pop, hv_pk, hv_isO, hv_isS, hv_any, hv_w, hv_cat, he_nil, he_i, he_r, he_l, hv_repl_0, hv_repl_s, if_true, if_false, and_true, true_and, and_self, Nat.zero_add, Nat.add_zero, Nat.reduceAdd, Nat.reduceLeDiff, List.length_cons, List.length_nil, Int.toNat_natCast, Bool.false_eq_true, reduceIte, Int.toNat_zero, Int.toNat_one, Int.reduceToNat, or_true, true_or, Int.reduceEq, Int.reduceLT, Int.reduceLE, Int.reduceNeg, Int.reduceAdd, Int.reduceSub, Int.reduceMul, Nat.reduceMul, Nat.reduceEqDiff, implies_true, false_implies, true_implies, not_true_eq_false, not_false_eq_true, ne_eq, or_false, false_or, and_false, false_and, or_self, Classical.not_not, Int.zero_add, Int.add_zero, lc_0, lc_22, lc_730, lc_902, lc_1074, lc_1447, lc_1824, lc_2081, lc_2135, lc_4258, lc_5723, lr_0, lt_14, ll_14, lr_2, lr_4, lr_5, lr_6, lr_7, lr_8, lt_1820, ll_1820, lr_9, lt_1822, ll_1822, lr_10, lr_11, lr_12, lr_13, lr_22, lt_30, ll_30, lr_1824, lt_1825, ll_1825, lr_2081, lt_2086, ll_2086, lr_2082, lt_2102, ll_2102, lr_2083, lt_2118, ll_2118, lr_2135, lt_2137, ll_2137, lr_4263, lt_4265, ll_4265, lr_5725, lt_5755, ll_5755, lr_5726, lt_5763, ll_5763, lr_5727, lt_5771, ll_5771, lr_5728, lt_6091, ll_6091, lr_5729, lt_6227, ll_6227, lr_5731, lt_6363, ll_6363, lr_5732, lt_6733, ll_6733, lr_5743, lt_7433, ll_7433, lr_5744, lt_7435, ll_7435, lr_5745, lt_7805, ll_7805, lr_5746, lt_7809, ll_7809, lr_5747, lt_8065, ll_8065, lr_5748, lt_8165, ll_8165, lr_5750, lt_8265, ll_8265, lr_5751, lt_8267, ll_8267, lr_5752, lt_8539, ll_8539, lr_5753, lt_9279, ll_9279, lr_731, lt_733, ll_733, lr_732, lt_899, ll_899, lr_903, lt_905, ll_905, lr_904, lt_1071, ll_1071, lr_1074, lt_1086, ll_1086, lr_1082, lt_1088, ll_1088, lr_1088, lt_1090, ll_1090, lr_1089, lt_1098, ll_1098, lr_1083, lt_1106, ll_1106, lr_1106, lt_1108, ll_1108, lr_1107, lt_1116, ll_1116, lr_1084, lt_1124, ll_1124, lr_1124, lt_1126, ll_1126, lr_1125, lt_1134, ll_1134, lr_1085, lt_1142, ll_1142, lr_1142, lt_1147, ll_1147, lr_1143, lt_1207, ll_1207, lr_1144, lt_1267, ll_1267, lr_1145, lt_1327, ll_1327, lr_1146, lt_1387, ll_1387, lr_1447, lt_1459, ll_1459, lr_1455, lt_1461, ll_1461, lr_1461, lt_1463, ll_1463, lr_1462, lt_1471, ll_1471, lr_1456, lt_1479, ll_1479, lr_1479, lt_1481, ll_1481, lr_1480, lt_1489, ll_1489, lr_1457, lt_1497, ll_1497, lr_1497, lt_1499, ll_1499, lr_1498, lt_1507, ll_1507, lr_1458, lt_1515, ll_1515, lr_1515, lt_1520, ll_1520, lr_1516, lt_1580, ll_1580, lr_1517, lt_1640, ll_1640, lr_1518, lt_1700, ll_1700, lr_1519, lt_1760, ll_1760]
    exact ⟨h0, fun g => by rw [hw]; exact h1 g⟩
  refine ⟨by decide, ?_⟩
  refine lp_m (fun c : Nat => tNd T L p - tSt T L p - c) (G := fun c => At 7 [some (Vr 5723), some (Vl (fw T (tSt T L p) c)), none, some (Vi (tSt T L p + c : Nat))] [] x) (P := fun c => c ≤ tNd T L p - tSt T L p ∧ (c = 0 ∨ (tKi T L p = 1 ∧ tNd T L p - tSt T L p < 8))) ?_ 0 ⟨Nat.zero_le _, Or.inl rfl⟩
  rintro c ⟨hc, hc2⟩ ih
  refine h7 _ _ _ ?_
  simp only [hb_X10_word_7, hb_X10_word_15, hb_X10_word_23, hb_X10_word_37, hc_iconst, hc_lconst, hc_iload, hc_lload, hc_aload, hc_istore, hc_astore, hc_lstore, hc_iinc, hc_dup, hc_dup2, hc_pop, hc_iadd, hc_isub, hc_imul, hc_iaddw, hc_isubw, hc_imulw, hc_inegw, hc_idiv, hc_irem, hc_ineg, hc_b2, hc_b1, hc_i2l, hc_l2i, hc_ladd, hc_l2, hc_lsh, hc_lcmp, hc_if, hc_icmp, hc_jump, hc_getI, hc_getR, hc_putI, hc_putZ, hc_xald, hc_iast, hc_bast, hc_zast, hc_aald, hc_alen, hc_copy, hc_gets, hc_getsI, hc_sald, hc_ldcs, hc_sval, hc_scod, hc_slen, hc_sbald, hc_callI, hc_callL, hc_callV, hc_max, hc_min, hc_abs, hc_ireturn, hc_zreturn, hc_creturn, hc_lreturn, hc_return, hc_none, hc_switch, hv_sw, hv_get, hv_set, hv_set2, hv_mask, hv_fr, hv_noL, hv_pop, hv_pk, hv_isO, hv_isS, hv_any, hv_w, hv_cat, he_nil, he_i, he_r, he_l, hv_repl_0, hv_repl_s, if_true, if_false, and_true, true_and, and_self, Nat.zero_add, Nat.add_zero, Nat.reduceAdd, Nat.reduceLeDiff, List.length_cons, List.length_nil, Int.toNat_natCast, Bool.false_eq_true, reduceIte, Int.toNat_zero, Int.toNat_one, Int.reduceToNat, or_true, true_or, Int.reduceEq, Int.reduceLT, Int.reduceLE, Int.reduceNeg, Int.reduceAdd, Int.reduceSub, Int.reduceMul, Nat.reduceMul, Nat.reduceEqDiff, implies_true, false_implies, true_implies, not_true_eq_false, not_false_eq_true, ne_eq, or_false, false_or, and_false, false_and, or_self, Classical.not_not, Int.zero_add, Int.add_zero, lc_0, lc_22, lc_730, lc_902, lc_1074, lc_1447, lc_1824, lc_2081, lc_2135, lc_4258, lc_5723, lr_0, lt_14, ll_14, lr_2, lr_4, lr_5, lr_6, lr_7, lr_8, lt_1820, ll_1820, lr_9, lt_1822, ll_1822, lr_10, lr_11, lr_12, lr_13, lr_22, lt_30, ll_30, lr_1824, lt_1825, ll_1825, lr_2081, lt_2086, ll_2086, lr_2082, lt_2102, ll_2102, lr_2083, lt_2118, ll_2118, lr_2135, lt_2137, ll_2137, lr_4263, lt_4265, ll_4265, lr_5725, lt_5755, ll_5755, lr_5726, lt_5763, ll_5763, lr_5727, lt_5771, ll_5771, lr_5728, lt_6091, ll_6091, lr_5729, lt_6227, ll_6227, lr_5731, lt_6363, ll_6363, lr_5732, lt_6733, ll_6733, lr_5743, lt_7433, ll_7433, lr_5744, lt_7435, ll_7435, lr_5745, lt_7805, ll_7805, lr_5746, lt_7809, ll_7809, lr_5747, lt_8065, ll_8065, lr_5748, lt_8165, ll_8165, lr_5750, lt_8265, ll_8265, lr_5751, lt_8267, ll_8267, lr_5752, lt_8539, ll_8539, lr_5753, lt_9279, ll_9279, lr_731, lt_733, ll_733, lr_732, lt_899, ll_899, lr_903, lt_905, ll_905, lr_904, lt_1071, ll_1071, lr_1074, lt_1086, ll_1086, lr_1082, lt_1088, ll_1088, lr_1088, lt_1090, ll_1090, lr_1089, lt_1098, ll_1098, lr_1083, lt_1106, ll_1106, lr_1106, lt_1108, ll_1108, lr_1107, lt_1116, ll_1116, lr_1084, lt_1124, ll_1124, lr_1124, lt_1126, ll_1126, lr_1125, lt_1134, ll_1134, lr_1085, lt_1142, ll_1142, lr_1142, lt_1147, ll_1147, lr_1143, lt_1207, ll_1207, lr_1144, lt_1267, ll_1267, lr_1145, lt_1327, ll_1327, lr_1146, lt_1387, ll_1387, lr_1447, lt_1459, ll_1459, lr_1455, lt_1461, ll_1461, lr_1461, lt_1463, ll_1463, lr_1462, lt_1471, ll_1471, lr_1456, lt_1479, ll_1479, lr_1479, lt_1481, ll_1481, lr_1480, lt_1489, ll_1489, lr_1457, lt_1497, ll_1497, lr_1497, lt_1499, ll_1499, lr_1498, lt_1507, ll_1507, lr_1458, lt_1515, ll_1515, lr_1515, lt_1520, ll_1520, lr_1516, lt_1580, ll_1580, lr_1517, lt_1640, ll_1640, lr_1518, lt_1700, ll_1700, lr_1519, lt_1760, ll_1760]
  rw [r1, r2, r3]
  have off : ¬ (tKi T L p = 1 ∧ tNd T L p - tSt T L p < 8) → fw T (tSt T L p) c = wdV T L p := fun g => by
    unfold wdV
    rw [if_neg g]
    rcases hc2 with e | e
    · rw [e]; rfl
    · exact absurd e g
  refine ⟨fun g => done _ ?_ _ rfl, fun g => ⟨fun g2 => done _ (off (fun e => g2 (kb.mpr e.1))) _ rfl, fun g2 => ⟨⟨by omega, by omega⟩, fun g3 => done _ (off (fun e => by omega)) _ rfl, fun g3 => ?_⟩⟩⟩
  · have : c = tNd T L p - tSt T L p := by omega
    subst this
    by_cases e : tKi T L p = 1 ∧ tNd T L p - tSt T L p < 8
    · unfold wdV; rw [if_pos e]
    · exact off e
  · have k1 := kb.mp g2
    have hlt := tNd_lt hp k1
    have tb := hlt (tSt T L p + c) (by omega) (by omega)
    have fb := fw_b (T := T) (s := tSt T L p) c (fun i hi => by have := hlt (tSt T L p + i) (by omega) (by omega); omega)
    have pw : (256 : Int) ^ c ≤ 281474976710656 := by
      have : c ≤ 6 := by omega
      rcases (show c = 0 ∨ c = 1 ∨ c = 2 ∨ c = 3 ∨ c = 4 ∨ c = 5 ∨ c = 6 by omega) with e | e | e | e | e | e | e <;> rw [e] <;> decide
    have nx := ih (c + 1) ⟨by omega, Or.inr ⟨k1, by omega⟩⟩ (by show tNd T L p - tSt T L p - (c + 1) < tNd T L p - tSt T L p - c; omega)
    have ef : fw T (tSt T L p) (c + 1) = fw T (tSt T L p) c * 256 + T (tSt T L p + c) := rfl
    rw [ef] at nx
    rw [hT.2 _ (by omega), lsh8 (by omega) (by omega)]
    have ec : ((tSt T L p + (c + 1) : Nat) : Int) = ((tSt T L p + c : Nat) : Int) + 1 := by omega
    rw [ec] at nx
    (repeat' (with_reducible refine And.intro ?_ ?_)) <;> first | exact nx | exact trivial | omega | exact ⟨by omega, by omega⟩
