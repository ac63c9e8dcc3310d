/-! told, the pair -/
theorem fOf_c {x y : hm} (h : ∀ a, 5771 ≤ a → a < 6091 → y a = x a) {k j m : Nat} (hk : k < 8) (hjm : j + m ≤ 40) : ∀ q, q < m → fOf y k j q = fOf x k j q := fun q hq => h _ (by omega) (by omega)
theorem AO_c {x y : hm} (h : ∀ a, 5771 ≤ a → a < 6091 → y a = x a) {k j m : Nat} (hk : k < 8) (hjm : j + m ≤ 40) : AO y k j m ↔ AO x k j m := by
  have e := fOf_c h hk hjm
  exact ⟨fun g q hq => by rw [← e q hq]; exact g q hq, fun g q hq => by rw [e q hq]; exact g q hq⟩
theorem goT_c {f f' : Nat → Int} {m : Nat} (h : ∀ q, q < 2 * m → f' q = f q) : ∀ (n k : Nat) (z : hm), n + k = m → goF (chT f') n k z = goF (chT f) n k z
  | 0, _, _, _ => rfl
  | n + 1, k, z, hk => by
    have e : chT f' k z = chT f k z := by
      unfold chT
      rw [h (2 * k) (by omega), h (2 * k + 1) (by omega)]
    by_cases c : z 6369 < 0
    · rw [goF_on _ c, goF_on _ c, e, goT_c h n (k + 1) _ (by omega)]
    · rw [goF_off _ c, goF_off _ c]
theorem pr_told (l : Launch) {n0 : Nat} (hn : n0 ≤ 900) {x : hm} (hI : IV n0 x) {r i n : Int} (hi : hv_I i) : hm_I l m_X9_told 6 [Vr 0, Vi r, Vi i, Vi n] x (fun r1 x1 => hm_I l m_X10_told 4 [Vr 5723, Vi r, Vi i, Vi n] x1 (fun r2 x2 => r1 = r2 ∧ IV (n0 + 1) x2)) := by
  obtain ⟨j1, j2, j3, j4, j5, j6, j7, j8, j9, j10⟩ := hI
  have k1 : ∀ k, k < 8 → I1k k x := j1
  unfold I1k at k1
  have e1 : x 1075 = x 6365 := j6.1.1
  have b01 : x 6365 = 0 ∨ x 6365 = 1 := j6.2.1.1
  have hV : ¬ x 1075 = 0 → okV 1074 (100 * n0) x x := fun c => okV_of j5 j6 (by omega)
  have fin : ∀ (v : Int) (y : hm), y 5724 = v → (∀ a, a ≠ 5723 ∧ a ≠ 5724 → y a = hh_upd x 1 v a) → IV (n0 + 1) y := by
    intro v y e1 G
    have F : ∀ a, a ≠ 1 ∧ a ≠ 5723 ∧ a ≠ 5724 → y a = x a := fun a ha => by rw [G a (by omega), hh_upd_ne (by omega)]
    have J2 : I2 y := by unfold I2; rw [G 1 (by omega), hh_upd_same, e1]
    exact ⟨(I1_congr (fun a ha => F a (by omega)) j1), J2, (I3_congr (fun a ha => F a (by omega)) j3), (I4_congr (fun a ha => F a (by omega)) j4), (I5_congr (fun a ha => F a (by omega)) j5), (I6_congr (by omega) (fun a ha => F a (by omega)) j6), (I7_congr (by omega) (fun a ha => F a (by omega)) j7), (I8_congr (fun a ha => F a (by omega)) j8), (I9_congr (fun a ha => F a (by omega)) j9), (I10_congr (fun a ha => F a (by omega)) j10)⟩
  -- what the reference reads is what stood ahead of the class's call
  have mo : ∀ (y : hm) (R : Int), (∀ a, a ≠ 1 → ¬ (1074 ≤ a ∧ a < 1447) → y a = x a) → (okTd r n → ¬ x 1075 = 0 → ∀ k j m : Nat, r = k → k < 8 → i = j → n = m → 0 ≤ x (5755 + k) → i + 2 * n ≤ x (5763 + k) → AO x k j (2 * m) → R = (goF (chT (fOf x k j)) m 0 x).1 ∧ ∀ v : hm, eqN v (goF (chT (fOf x k j)) m 0 x).2 → v 5724 = 0 → (∀ a, ¬ (6363 ≤ a ∧ a < 6733) → a ≠ 7433 → a ≠ 7434 → a ≠ 5723 → a ≠ 5724 → v a = y a) → IV (n0 + 1) v) →
      (¬ okTd r n → R = -1000001 ∧ ∀ v : hm, (∀ a, a ≠ 5723 → v a = y a) → IV (n0 + 1) v) → (okTd r n → x 1075 = 0 → R = -1000002 ∧ ∀ v : hm, (∀ a, a ≠ 5723 → v a = y a) → IV (n0 + 1) v) →
      (okTd r n → ¬ x 1075 = 0 → ∀ k : Nat, r = k → k < 8 → x (5755 + k) < 0 → R = -1000011 ∧ ∀ v : hm, v 5724 = 1 → (∀ a, a ≠ 5723 ∧ a ≠ 5724 → v a = y a) → IV (n0 + 1) v) →
      (okTd r n → ¬ x 1075 = 0 → ∀ k : Nat, r = k → k < 8 → 0 ≤ x (5755 + k) → ¬ (0 ≤ i ∧ i + 2 * n ≤ x (5763 + k)) → R = -1000012 ∧ ∀ v : hm, v 5724 = 2 → (∀ a, a ≠ 5723 ∧ a ≠ 5724 → v a = y a) → IV (n0 + 1) v) →
      (okTd r n → ¬ x 1075 = 0 → ∀ k j m : Nat, r = k → k < 8 → i = j → n = m → 0 ≤ x (5755 + k) → i + 2 * n ≤ x (5763 + k) → ¬ AO x k j (2 * m) → R = -1000001 ∧ ∀ v : hm, (∀ a, a ≠ 5723 → v a = y a) → IV (n0 + 1) v) →
      hm_I l m_X10_told 4 [Vr 5723, Vi r, Vi i, Vi n] y (fun r2 x2 => R = r2 ∧ IV (n0 + 1) x2) := by
    intro y R G p1 p2 p3 p4 p5 p6
    have g65 : y 6365 = x 1075 := by rw [G _ (by omega) (by omega), e1]
    have git : ∀ a, 5771 ≤ a → a < 6091 → y a = x a := fun a h1 h2 => G a (by omega) (by omega)
    have E : ∀ k j m : Nat, k < 8 → i = j → n = m → x (5763 + k) ≤ 40 → i + 2 * n ≤ x (5763 + k) → (AO y k j (2 * m) ↔ AO x k j (2 * m)) ∧ goF (chT (fOf y k j)) m 0 x = goF (chT (fOf x k j)) m 0 x := fun k j m hk hj hm h40 hle => by
      have hjm : j + 2 * m ≤ 40 := by omega
      exact ⟨AO_c git hk hjm, goT_c (fOf_c git hk hjm) m 0 x (by omega)⟩
    refine mo_told l hi (B1_congr (fun a ha => G a (by omega) (by omega)) j1.B) (z := x) (N := 100 * n0) (fun c => ?_) (by omega) (fun c v f => ?_) (fun c c2 v f => ?_) (fun k hk hk8 c c2 c3 v f1 f2 => ?_) (fun k hk hk8 c c2 c3 c4 v f1 f2 => ?_) (fun k j m hk hk8 hj hm c c2 c3 c4 c5 v f => ?_) (fun k j m hk hk8 hj hm c c2 c3 c4 c5 v f1 f2 f3 => ?_)
    · have hv := hV (by rw [← g65]; exact c)
      exact ⟨⟨fun q hq => G _ (by omega) (by omega), fun q hq => G _ (by omega) (by omega)⟩, hv.2.2.2.2.2, hv.2.2.1, hv.2.2.2.1⟩
    · exact ⟨(p2 c).1, (p2 c).2 v f⟩
    · rw [g65] at c2
      exact ⟨(p3 c c2).1, (p3 c c2).2 v f⟩
    · rw [g65] at c2
      rw [G _ (by omega) (by omega)] at c3
      have q := p4 c c2 k hk hk8 c3
      exact ⟨q.1, q.2 v f1 f2⟩
    · rw [g65] at c2
      rw [G _ (by omega) (by omega)] at c3 c4
      have q := p5 c c2 k hk hk8 c3 c4
      exact ⟨q.1, q.2 v f1 f2⟩
    · rw [g65] at c2
      rw [G _ (by omega) (by omega)] at c3 c4
      have ee := E k j m hk8 hj hm (k1 k hk8).2.1.2.1 c4
      have q := p6 c c2 k j m hk hk8 hj hm c3 c4 (fun a => c5 (ee.1.mpr a))
      exact ⟨q.1, q.2 v f⟩
    · rw [g65] at c2
      rw [G _ (by omega) (by omega)] at c3 c4
      have ee := E k j m hk8 hj hm (k1 k hk8).2.1.2.1 c4
      have q := p1 c c2 k j m hk hk8 hj hm c3 c4 (ee.1.mp c5)
      rw [ee.2] at f1 ⊢
      exact ⟨q.1, q.2 v f1 f2 f3⟩
  have keep : ∀ (y v : hm), (∀ a, y a = x a) → (∀ a, a ≠ 5723 → v a = y a) → IV (n0 + 1) v := fun y v f0 f => by
    have F : ∀ a, a ≠ 5723 → v a = x a := fun a ha => by rw [f a ha, f0 a]
    exact ⟨(I1_congr (fun a ha => F a (by omega)) j1), (I2_congr (fun a ha => F a (by omega)) j2), (I3_congr (fun a ha => F a (by omega)) j3), (I4_congr (fun a ha => F a (by omega)) j4), (I5_congr (fun a ha => F a (by omega)) j5), (I6_congr (by omega) (fun a ha => F a (by omega)) j6), (I7_congr (by omega) (fun a ha => F a (by omega)) j7), (I8_congr (fun a ha => F a (by omega)) j8), (I9_congr (fun a ha => F a (by omega)) j9), (I10_congr (fun a ha => F a (by omega)) j10)⟩
  have find : ∀ (q : Int) (v : hm), v 5724 = q → (∀ a, a ≠ 5723 ∧ a ≠ 5724 → v a = hh_upd x 1 q a) → IV (n0 + 1) v := fun q v f1 f2 => fin q v f1 f2
  refine cl_told l j1 hV (by omega) (fun g => ?_) (fun g hb => ?_) (fun k hk hk8 g hb h0 => ?_) (fun k hk hk8 g hb h0 h2 => ?_) (fun k j m hk hk8 hj hm g hb h0 h2 hA => ?_) (fun k j m hk hk8 hj hm g hb h0 h2 hA w z' w1 w2 w3 => ?_)
  · exact mo x _ (fun a _ _ => rfl) (fun c => absurd c g) (fun _ => ⟨rfl, fun v f => keep x v (fun _ => rfl) f⟩) (fun c => absurd c g) (fun c => absurd c g) (fun c => absurd c g) (fun c => absurd c g)
  · exact mo x _ (fun a _ _ => rfl) (fun _ c => absurd hb c) (fun c => absurd g c) (fun _ _ => ⟨rfl, fun v f => keep x v (fun _ => rfl) f⟩) (fun _ c => absurd hb c) (fun _ c => absurd hb c) (fun _ c => absurd hb c)
  · have hk1 := k1 k hk8
    refine mo (hh_upd x 1 1) _ (fun a h _ => hh_upd_ne h) (fun _ _ k2 j2 m2 q1 q2 q3 q4 q5 => ?_) (fun c => absurd g c) (fun _ c => absurd c hb) (fun _ _ k2 q1 q2 q3 => ⟨rfl, fun v f1 f2 => find 1 v f1 f2⟩) (fun _ _ k2 q1 q2 q3 => ?_) (fun _ _ k2 j2 m2 q1 q2 q3 q4 q5 => ?_)
    all_goals
      have : k2 = k := by omega
      subst this
      omega
  · have hk1 := k1 k hk8
    refine mo (hh_upd x 1 2) _ (fun a h _ => hh_upd_ne h) (fun _ _ k2 j2 m2 q1 q2 q3 q4 q5 q6 => ?_) (fun c => absurd g c) (fun _ c => absurd c hb) (fun _ _ k2 q1 q2 q3 => ?_) (fun _ _ k2 q1 q2 q3 q4 => ⟨rfl, fun v f1 f2 => find 2 v f1 f2⟩) (fun _ _ k2 j2 m2 q1 q2 q3 q4 q5 q6 => ?_)
    all_goals
      have : k2 = k := by omega
      subst this
      omega
  · have hk1 := k1 k hk8
    refine mo x _ (fun a _ _ => rfl) (fun _ _ k2 j2 m2 q1 q2 q3 q4 q5 q6 q7 => ?_) (fun c => absurd g c) (fun _ c => absurd c hb) (fun _ _ k2 q1 q2 q3 => ?_) (fun _ _ k2 q1 q2 q3 q4 => ?_) (fun _ _ k2 j2 m2 q1 q2 q3 q4 q5 q6 q7 => ⟨rfl, fun v f => keep x v (fun _ => rfl) f⟩)
    · have : k2 = k := by omega
      subst this
      have : j2 = j := by omega
      subst this
      have : m2 = m := by omega
      subst this
      exact absurd q7 hA
    all_goals
      have : k2 = k := by omega
      subst this
      omega
  · have hk1 := k1 k hk8
    have h65 : x 6365 = 1 := by omega
    have i57 : x 5730 ≠ 0 := fun e => by have := j6.2.2 e; omega
    refine mo (hh_upd w 1 0) _ (fun a h h2 => by rw [hh_upd_ne h]; exact w3 a h2) (fun _ _ k2 j2 m2 q1 q2 q3 q4 q5 q6 q7 => ?_) (fun c => absurd g c) (fun _ c => absurd c hb) (fun _ _ k2 q1 q2 q3 => ?_) (fun _ _ k2 q1 q2 q3 q4 => ?_) (fun _ _ k2 j2 m2 q1 q2 q3 q4 q5 q6 q7 => ?_)
    · have : k2 = k := by omega
      subst this
      have : j2 = j := by omega
      subst this
      have : m2 = m := by omega
      subst this
      refine ⟨rfl, fun v v1 v2 v3 => ?_⟩
      have F : ∀ a, (a ≠ 1 ∧ a ≠ 5723 ∧ a ≠ 5724 ∧ a ≠ 7433 ∧ a ≠ 7434 ∧ ¬ (1074 ≤ a ∧ a < 1447)) ∧ ¬ (6363 ≤ a ∧ a < 6733) → v a = x a := fun a ha => by
        rw [v3 a (by omega) (by omega) (by omega) (by omega) (by omega), hh_upd_ne (by omega), w3 _ (by omega)]
      have J6 : I6 (n0 + 1) v := go_I6 (N := 100 * n0 + m2) (by have := g.2; omega) w1 w2 v1 (fun a q1 q2 => by rw [v3 a (by omega) (by omega) (by omega) (by omega) (by omega), hh_upd_ne (by omega)]) (by rw [F _ (by omega)]; exact i57)
      have J2 : I2 v := by unfold I2; rw [v2, v3 1 (by omega) (by omega) (by omega) (by omega) (by omega), hh_upd_same]
      exact ⟨(I1_congr (fun a ha => F a (by omega)) j1), J2, (I3_congr (fun a ha => F a (by omega)) j3), (I4_congr (fun a ha => F a (by omega)) j4), (I5_congr (fun a ha => F a (by omega)) j5), J6, (I7_congr (by omega) (fun a ha => F a (by omega)) j7), (I8_congr (fun a ha => F a (by omega)) j8), (I9_congr (fun a ha => F a (by omega)) j9), (I10_congr (fun a ha => F a (by omega)) j10)⟩
    · have : k2 = k := by omega
      subst this
      omega
    · have : k2 = k := by omega
      subst this
      omega
    · have : k2 = k := by omega
      subst this
      have : j2 = j := by omega
      subst this
      have : m2 = m := by omega
      subst this
      exact absurd hA q7
