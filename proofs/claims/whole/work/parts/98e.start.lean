/-! the memory behind the two constructors -/
def zl_0 : List (Nat × Int) := [(5753, 1), (5752, 1), (5751, 1), (5750, 1), (5748, 1), (5747, 1), (5746, 1), (5745, 1), (5744, 1), (5743, 1), (5732, 1), (5731, 1), (5729, 1), (5728, 1), (5727, 1), (5726, 1), (5725, 1), (5762, -1), (5761, -1), (5760, -1), (5759, -1), (5758, -1), (5757, -1), (5756, -1), (5755, -1), (1823, 1), (5361, 1), (5418, 1), (5419, 1), (5420, 1), (5421, 1), (5422, 1), (5360, 1), (5400, 1), (5401, 1), (5359, 1), (5382, 1), (5383, 1), (5358, 1), (5364, 1)]
def zl_1 : List (Nat × Int) := [(5365, 1), (5350, 1), (1821, 1), (5180, 1), (5179, 1), (5182, 1), (5268, 1), (5317, 1), (5318, 1), (5319, 1), (5320, 1), (5321, 1), (5322, 1), (5266, 1), (5269, 1), (5270, 1), (5271, 1), (5272, 1), (5273, 1), (5274, 1), (5275, 1), (5276, 1), (5181, 1), (5186, 1), (5235, 1), (5236, 1), (5237, 1), (5238, 1), (5239, 1), (5240, 1), (5184, 1), (5187, 1), (5188, 1), (5189, 1), (5190, 1), (5191, 1), (5192, 1), (5193, 1), (5194, 1), (1822, 1)]
def zl_2 : List (Nat × Int) := [(4816, 1), (4873, 1), (4874, 1), (4875, 1), (4876, 1), (4877, 1), (4815, 1), (4855, 1), (4856, 1), (4814, 1), (4837, 1), (4838, 1), (4813, 1), (4819, 1), (4820, 1), (4805, 1), (1820, 1), (4635, 1), (4634, 1), (4637, 1), (4723, 1), (4772, 1), (4773, 1), (4774, 1), (4775, 1), (4776, 1), (4777, 1), (4721, 1), (4724, 1), (4725, 1), (4726, 1), (4727, 1), (4728, 1), (4729, 1), (4730, 1), (4731, 1), (4636, 1), (4641, 1), (4690, 1), (4691, 1)]
def zl_3 : List (Nat × Int) := [(4692, 1), (4693, 1), (4694, 1), (4695, 1), (4639, 1), (4642, 1), (4643, 1), (4644, 1), (4645, 1), (4646, 1), (4647, 1), (4648, 1), (4649, 1), (21, 1), (4592, 1), (4589, 1), (20, 1), (4548, 1), (4545, 1), (19, 1), (4504, 1), (4501, 1), (18, 1), (4460, 1), (4457, 1), (17, 1), (4416, 1), (4413, 1), (16, 1), (4372, 1), (4369, 1), (15, 1), (4328, 1), (4325, 1), (14, 1), (4284, 1), (4281, 1), (13, 1), (4263, 1), (12, 1)]
def zl_4 : List (Nat × Int) := [(2135, 1), (2137, 1), (2138, 1), (2139, 1), (2140, 1), (2141, 1), (2142, 1), (2143, 1), (2144, 1), (2145, 1), (2146, 1), (2147, 1), (2148, 1), (2149, 1), (2150, 1), (2151, 1), (2152, 1), (2153, 1), (2154, 1), (2155, 1), (2156, 1), (2157, 1), (11, 1), (2083, 1), (2082, 1), (2081, 1), (10, 1), (1824, 1), (9, 1), (8, 1), (7, 1), (1458, 1), (1515, 1), (1516, 1), (1517, 1), (1518, 1), (1519, 1), (1457, 1), (1497, 1), (1498, 1)]
def zl_5 : List (Nat × Int) := [(1456, 1), (1479, 1), (1480, 1), (1455, 1), (1461, 1), (1462, 1), (1447, 1), (6, 1), (1085, 1), (1142, 1), (1143, 1), (1144, 1), (1145, 1), (1146, 1), (1084, 1), (1124, 1), (1125, 1), (1083, 1), (1106, 1), (1107, 1), (1082, 1), (1088, 1), (1089, 1), (1074, 1), (5, 1), (904, 1), (903, 1), (906, 1), (992, 1), (1041, 1), (1042, 1), (1043, 1), (1044, 1), (1045, 1), (1046, 1), (990, 1), (993, 1), (994, 1), (995, 1), (996, 1)]
def zl_6 : List (Nat × Int) := [(997, 1), (998, 1), (999, 1), (1000, 1), (905, 1), (910, 1), (959, 1), (960, 1), (961, 1), (962, 1), (963, 1), (964, 1), (908, 1), (911, 1), (912, 1), (913, 1), (914, 1), (915, 1), (916, 1), (917, 1), (918, 1), (4, 1), (732, 1), (731, 1), (734, 1), (820, 1), (869, 1), (870, 1), (871, 1), (872, 1), (873, 1), (874, 1), (818, 1), (821, 1), (822, 1), (823, 1), (824, 1), (825, 1), (826, 1), (827, 1)]
def zl_7 : List (Nat × Int) := [(828, 1), (733, 1), (738, 1), (787, 1), (788, 1), (789, 1), (790, 1), (791, 1), (792, 1), (736, 1), (739, 1), (740, 1), (741, 1), (742, 1), (743, 1), (744, 1), (745, 1), (746, 1), (2, 1), (22, 1), (0, 1)]
def zL : List (Nat × Int) := zl_0 ++ (zl_1 ++ (zl_2 ++ (zl_3 ++ (zl_4 ++ (zl_5 ++ (zl_6 ++ (zl_7)))))))
theorem zL_eq : zp_X10_5723 ++ (zp_X9_0 ++ []) = zL := by decide +kernel
theorem zm_refs : hh_refs.all (fun q => hz_m zL q.1 != 0) = true := by decide +kernel
theorem zm_arrs : hh_cells.all (fun c => decide (c.2.1 = 1 → 3 ≤ c.2.2.1 → ∀ k, k < c.2.2.2 → hh_isr (c.1 + k) = true)) = true := by decide +kernel
theorem zm_isr {a : Nat} (h : hh_isr a = true) : hz_m zL a ≠ 0 := by
  unfold hh_isr at h
  cases hl : hh_refs.lookup a with
  | none => rw [hl] at h; cases h
  | some v =>
    have key : ∀ (l : List (Nat × Nat)), l.lookup a = some v → (a, v) ∈ l := by
      intro l
      induction l with
      | nil => intro h; cases h
      | cons q l ih =>
        intro h
        obtain ⟨b, w⟩ := q
        rw [List.lookup_cons] at h
        by_cases hb : a == b
        · rw [hb] at h
          cases h
          rw [eq_of_beq hb]
          exact List.mem_cons_self
        · rw [Bool.not_eq_true _ |>.mp hb] at h
          exact List.mem_cons_of_mem _ (ih h)
    have h2 := List.all_eq_true.mp zm_refs _ (key _ hl)
    simpa using h2
/-- from the constructors' picture to the layer's -/
theorem zm_pic {D : va_G} {ρ : Nat → Nat} {kA : Nat → ClassId} {H : Heap} (hP : va_P D vwCl (hz_W ρ kA 287 (hz_m zL)) H) : va_P D vwCl (hh_W ρ kA (hz_m zL)) H := by
  intro i q hq
  unfold hh_W at hq
  rw [List.getElem?_map] at hq
  cases hc : hh_cells[i]? with
  | none => rw [hc] at hq; cases hq
  | some c =>
    rw [hc] at hq
    cases hq
    have hl : i < 287 := Nat.lt_of_lt_of_eq (List.getElem?_eq_some_iff.mp hc).1 (by decide +kernel)
    have h1 := hP i _ (hz_W_at hc hl)
    have hk := of_decide_eq_true (List.all_eq_true.mp hh_ok_kind c (List.mem_of_getElem? hc))
    unfold hz_e at h1
    show va_at D vwCl (ρ c.1, hh_e ρ kA (hz_m zL) c) H
    unfold hh_e
    by_cases h0 : c.2.1 = 0
    · rw [if_pos h0] at h1 ⊢
      have e : (List.range c.2.2.2).map (fun k => hz_fv ρ (hz_m zL) (c.1 + k)) = (List.range c.2.2.2).map (fun k => hh_fv ρ (hz_m zL) (c.1 + k)) := by
        apply List.map_congr_left
        intro k _
        unfold hz_fv hh_fv
        by_cases hi : hh_isr (c.1 + k) = true
        · rw [hi, if_neg (zm_isr hi)]
        · rw [Bool.not_eq_true _ |>.mp hi]
          rfl
      rw [e] at h1
      exact h1
    · rw [if_neg h0] at h1 ⊢
      by_cases h3 : c.2.2.1 < 3
      · rw [if_pos h3] at h1 ⊢
        exact h1
      · rw [if_neg h3] at h1 ⊢
        have h4 := of_decide_eq_true (List.all_eq_true.mp zm_arrs c (List.mem_of_getElem? hc)) (by omega) (by omega)
        show H[ρ c.1]? = some (vp_cell _ _)
        have h5 : H[ρ c.1]? = some (vp_cell (kA c.1) (c.2.2.2, .inr (.inr (.inr (.inr (hz_rv ρ (hz_m zL) c.1 c.2.2.2)))))) := h1
        rw [h5]
        show some (vp_cell (kA c.1) _) = some (vp_cell (kA c.1) _)
        rw [vp_cell_q, vp_cell_q]
        congr 1
        refine hz_arrV (fun j hj => ?_)
        unfold hz_rv
        rw [if_pos ⟨hj, zm_isr (h4 j hj)⟩]
theorem zm_I1 : I1 (hz_m zL) := by unfold I1 I1k; decide +kernel
theorem zm_0 : hz_m zL 1 = 0 ∧ hz_m zL 5724 = 0 ∧ hz_m zL 23 = 0 ∧ hz_m zL 5733 = 0 ∧ hz_m zL 3 = 0 ∧ hz_m zL 5734 = 0 ∧ hz_m zL 730 = 0 ∧ hz_m zL 5730 = 0 ∧ hz_m zL 6365 = 0 ∧ hz_m zL 2118 = 0 ∧ hz_m zL 2136 = 0 ∧ hz_m zL 4264 = 0 ∧ hz_m zL 5754 = 0 := by decide +kernel
theorem zm_1 : ∀ k, k < 136 → hz_m zL (6091 + k) = 0 := by decide +kernel
theorem zm_2 : ∀ k, k < 370 → hz_m zL (6363 + k) = 0 := by decide +kernel
theorem zm_3 : ∀ s, s < 2 → hz_m zL (730 + 5 + 82 * s) = 0 ∧ hz_m zL (730 + 7 + 82 * s) = 0 := by decide +kernel
theorem zm_4 : ∀ i, i < 3 → hz_m zL (730 + 169 + i) = 0 := by decide +kernel
theorem zm_5 : ∀ k, k < 20 → hz_m zL (1074 + k) = 0 ∨ hh_isr (1074 + k) = true := by decide +kernel
theorem zm_6 : ∀ k, k < 2 → hz_m zL (8265 + k) = 0 ∧ hz_m zL (4633 + 545 * k) = 0 := by decide +kernel
theorem zm_7 : ∀ j, j < 100 → hz_m zL (2158 + j) = 0 := by decide +kernel
theorem zm_8 : hz_m zL 1075 = 0 ∧ hz_m zL 1086 = 0 ∧ hz_m zL 1087 = 0 ∧ hz_m zL 6363 = 0 ∧ hz_m zL 6364 = 0 ∧ hz_m zL 6091 = 0 ∧ hz_m zL 6092 = 0 := by decide +kernel
theorem zm_IV : IV 0 (hz_m zL) := by
  obtain ⟨a1, a2, a3, a4, a5, a6, a7, a8, a9, a10, a11, a12, a13⟩ := zm_0
  obtain ⟨c1, c2, c3, c4, c5, c6, c7⟩ := zm_8
  have hz1 : ∀ k, k < 136 → hz_m zL (6091 + k) = 0 := zm_1
  refine ⟨zm_I1, ?_, ?_, ?_, ?_, ?_, ?_, ?_, ?_, ?_⟩
  · unfold I2
    rw [a1, a2]
  · unfold I3
    rw [a3, a4]
    exact ⟨⟨rfl, by omega, by omega⟩, fun j _ h => absurd h (by omega)⟩
  · unfold I4
    rw [a5, a6]
  · refine ⟨by rw [a7, a8], Or.inl ⟨a7, zm_1⟩, ?_, fun i hi => ?_⟩
    · intro s hs
      have e1 := zm_3 s hs
      have e2 := zm_1 s (by omega)
      have e3 := zm_1 (2 + s) (by omega)
      rw [← Nat.add_assoc] at e3
      refine ⟨by rw [e1.1, e2], by rw [e1.2, e3], fun p _ h => ?_, fun r _ h => ?_⟩
      · rw [e2] at h; omega
      · rw [e3] at h; omega
    · have e1 := zm_4 i hi
      have e2 := zm_1 (5 + i) (by omega)
      rw [← Nat.add_assoc] at e2
      rw [e1, e2]
  · refine ⟨⟨by rw [c1, a9], ⟨by rw [c2, c4], by rw [c3, c5]⟩, fun h => absurd h (by rw [a9]; decide)⟩, ⟨Or.inl a9, fun _ k _ hk => zm_2 k hk, fun h => absurd h (by rw [a9]; decide), fun h => absurd c6 h⟩, fun _ => a9⟩
  · intro k hk
    obtain ⟨e1, e2⟩ := zm_6 k hk
    exact ⟨by rw [e1, e2], Or.inl e1⟩
  · exact a10
  · unfold I9
    rw [a11]
    refine ⟨⟨by omega, by omega⟩, fun t ht h a b ha hb => ?_⟩
    have h0 : t = 0 := by omega
    subst h0
    have e := zm_7 (10 * a + b) (by omega)
    rw [show 2158 + 100 * 0 + (10 * a + b) = 2158 + (10 * a + b) by omega, e]
    rfl
  · unfold I10
    rw [a12, a13]
    exact ⟨⟨rfl, by omega, by omega⟩, fun j _ h => absurd h (by omega)⟩
