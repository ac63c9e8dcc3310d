/-! the text's grammar, as functions of the tape -/
abbrev PS : Type := (Nat × (Nat → Int)) ⊕ (Int × Nat)
def bd (a : PS) (f : Nat → (Nat → Int) → PS) : PS := match a with
  | .inl (p, r) => f p r
  | .inr e => .inr e
theorem bd_l {a : PS} {f : Nat → (Nat → Int) → PS} {p : Nat} {r : Nat → Int} (h : a = .inl (p, r)) : bd a f = f p r := by rw [h]; rfl
theorem bd_r {a : PS} {f : Nat → (Nat → Int) → PS} {e : Int × Nat} (h : a = .inr e) : bd a f = .inr e := by rw [h]; rfl
theorem bd_inl {a : PS} {f : Nat → (Nat → Int) → PS} {z : Nat × (Nat → Int)} (h : bd a f = .inl z) : ∃ p r, a = .inl (p, r) ∧ f p r = .inl z := by
  cases a with
  | inl q => exact ⟨q.1, q.2, rfl, h⟩
  | inr e => exact absurd h (by show ¬ ((Sum.inr e : PS) = Sum.inl z); intro g; cases g)
def up (r : Nat → Int) (i : Nat) (v : Int) : Nat → Int := fun j => if j = i then v else r j
theorem up_same (r : Nat → Int) (i : Nat) (v : Int) : up r i v i = v := if_pos rfl
theorem up_ne {r : Nat → Int} {i j : Nat} {v : Int} (h : j ≠ i) : up r i v j = r j := if_neg h
def whatF (w : Int) : Int := if w = 108243466679400 then 0 else if w = 127991726830195 then 1 else if w = 127991944667492 then 2 else if w = 499917943912 then 3 else -1000000
def belF (w : Int) : Int := if w = 422608400247 then 0 else if w = 418263299685 then 1 else -1000000
def doF (w : Int) : Int := if w = 1752132708 then 0 else if w = 448377484901 then 1 else if w = 27988572849333618 then 2 else if w = 1919251316 then 3 else -1000000
def tlo (k : Nat) : Int := if k = 0 then 40 else if k = 4 then 0 else 1
def thi (k : Nat) : Int := if k = 0 then 150 else if k = 1 then 200 else if k = 2 then 400 else if k = 3 then 60 else 5
def glo (k : Nat) : Int := if k = 1 then 0 else 1
def ghi (k : Nat) : Int := if k = 0 then 100 else if k = 1 then 20 else 99
def P_sign (T : Nat → Int) (L p : Nat) (r : Nat → Int) : PS := if tKi T L p = 3 then .inl (tNd T L p, r) else .inr (1, tSt T L p)
def P_num (T : Nat → Int) (L : Nat) (lo hi : Int) (i p : Nat) (r : Nat → Int) : PS := if tKi T L p = 2 then (if lo ≤ tVa T L p ∧ tVa T L p ≤ hi then .inl (tNd T L p, up r i (tVa T L p)) else .inr (2, tSt T L p)) else .inr (1, tSt T L p)
def P_word (T : Nat → Int) (L : Nat) (w : Int) (p : Nat) (r : Nat → Int) : PS := if wdV T L p = w then .inl (tNd T L p, r) else .inr (1, tSt T L p)
def P_pick (T : Nat → Int) (L : Nat) (f : Int → Int) (i p : Nat) (r : Nat → Int) : PS := if f (wdV T L p) = -1000000 then .inr (1, tSt T L p) else .inl (tNd T L p, up r i (f (wdV T L p)))
def P_nums (T : Nat → Int) (L : Nat) (lo hi : Nat → Int) (b : Nat) : Nat → Nat → Nat → (Nat → Int) → PS
  | 0, _, p, r => .inl (p, r)
  | m + 1, k, p, r => bd (P_num T L (lo k) (hi k) (b + k) p r) (fun p r => P_nums T L lo hi b m (k + 1) p r)
def P_puller (T : Nat → Int) (L s c p : Nat) (r : Nat → Int) : PS := if c = 8 then .inr (3, tSt T L p) else bd (P_nums T L tlo thi (8 + 40 * s + 5 * c) 5 0 (tNd T L p) r) (fun p r => bd (P_sign T L p r) (fun p r => .inl (p, up r s (c + 1))))
def P_rule (T : Nat → Int) (L s c p : Nat) (r : Nat → Int) : PS := if c = 6 then .inr (3, tSt T L p) else bd (P_pick T L whatF (88 + 24 * s + 4 * c) (tNd T L p) r) (fun p r => bd (P_pick T L belF (88 + 24 * s + 4 * c + 1) p r) (fun p r => bd (P_num T L (-99) 999 (88 + 24 * s + 4 * c + 2) p r) (fun p r => bd (P_pick T L doF (88 + 24 * s + 4 * c + 3) p r) (fun p r => bd (P_sign T L p r) (fun p r => .inl (p, up r (2 + s) (c + 1)))))))
def P_pullers (T : Nat → Int) (L s : Nat) : Nat → Nat → Nat → (Nat → Int) → PS
  | 0, _, _, _ => .inr (0, 0)
  | n + 1, c, p, r => if wdV T L p = 123649632527730 then bd (P_puller T L s c p r) (fun p r => P_pullers T L s n (c + 1) p r) else .inl (p, r)
def P_rules (T : Nat → Int) (L s : Nat) : Nat → Nat → Nat → (Nat → Int) → PS
  | 0, _, _, _ => .inr (0, 0)
  | n + 1, c, p, r => if wdV T L p = 2003330414 then bd (P_rule T L s c p r) (fun p r => P_rules T L s n (c + 1) p r) else .inl (p, r)
def P_head (T : Nat → Int) (L p : Nat) (r : Nat → Int) : PS := bd (P_word T L 1936286821 p r) (fun p r => bd (P_sign T L p r) (fun p r => if wdV T L p = 123649632527730 then .inl (p, r) else .inr (1, tSt T L p)))
def P_side (T : Nat → Int) (L s p : Nat) (r : Nat → Int) : PS := bd (P_head T L p r) (fun p r => bd (P_pullers T L s 9 0 p r) (fun p r => P_rules T L s 7 0 p r))
def P_ground (T : Nat → Int) (L p : Nat) (r : Nat → Int) : PS := if wdV T L p = 113741193899620 then bd (P_nums T L glo ghi 5 3 0 (tNd T L p) r) (fun p r => P_sign T L p r) else .inl (p, r)
def P_end (T : Nat → Int) (L p : Nat) (r : Nat → Int) : PS := if tKi T L p = 0 then .inl (p, r) else .inr (1, tSt T L p)
def P_text (T : Nat → Int) (L p : Nat) (r : Nat → Int) : PS := bd (P_side T L 0 p r) (fun p r => bd (P_side T L 1 p r) (fun p r => bd (P_ground T L p r) (fun p r => P_end T L p r)))
def row0 : Nat → Int := fun j => if j = 5 then 100 else if j = 7 then 20 else 0
/-! what a step has read -/
theorem P_sign_ok {T : Nat → Int} {L p p' : Nat} {r r' : Nat → Int} (h : P_sign T L p r = .inl (p', r')) : tKi T L p = 3 ∧ p' = tNd T L p ∧ r' = r := by
  unfold P_sign at h
  split at h
  · cases h; exact ⟨by assumption, rfl, rfl⟩
  · cases h
theorem P_word_ok {T : Nat → Int} {L p p' : Nat} {w : Int} {r r' : Nat → Int} (h : P_word T L w p r = .inl (p', r')) : wdV T L p = w ∧ p' = tNd T L p ∧ r' = r := by
  unfold P_word at h
  split at h
  · cases h; exact ⟨by assumption, rfl, rfl⟩
  · cases h
theorem P_num_ok {T : Nat → Int} {L i p p' : Nat} {lo hi : Int} {r r' : Nat → Int} (h : P_num T L lo hi i p r = .inl (p', r')) : tKi T L p = 2 ∧ (lo ≤ tVa T L p ∧ tVa T L p ≤ hi) ∧ p' = tNd T L p ∧ r' = up r i (tVa T L p) := by
  unfold P_num at h
  split at h
  · split at h
    · cases h; exact ⟨by assumption, by assumption, rfl, rfl⟩
    · cases h
  · cases h
theorem P_pick_ok {T : Nat → Int} {L i p p' : Nat} {f : Int → Int} {r r' : Nat → Int} (h : P_pick T L f i p r = .inl (p', r')) : f (wdV T L p) ≠ -1000000 ∧ p' = tNd T L p ∧ r' = up r i (f (wdV T L p)) := by
  unfold P_pick at h
  split at h
  · cases h
  · cases h; exact ⟨by assumption, rfl, rfl⟩
theorem whatF_b (w : Int) : whatF w = -1000000 ∨ (0 ≤ whatF w ∧ whatF w ≤ 3) := by unfold whatF; (repeat' split) <;> omega
theorem belF_b (w : Int) : belF w = -1000000 ∨ (0 ≤ belF w ∧ belF w ≤ 1) := by unfold belF; (repeat' split) <;> omega
theorem doF_b (w : Int) : doF w = -1000000 ∨ (0 ≤ doF w ∧ doF w ≤ 3) := by unfold doF; (repeat' split) <;> omega
theorem P_nums_ok {T : Nat → Int} {L : Nat} {lo hi : Nat → Int} {b : Nat} : ∀ (m k p : Nat) (r : Nat → Int) {p' : Nat} {r' : Nat → Int}, P_nums T L lo hi b m k p r = .inl (p', r') → p ≤ L → p' ≤ L ∧ (∀ j, ¬ (b + k ≤ j ∧ j < b + k + m) → r' j = r j) ∧ ∀ j, k ≤ j → j < k + m → lo j ≤ r' (b + j) ∧ r' (b + j) ≤ hi j
  | 0, k, p, r, p', r', h, hp => by
    cases h
    exact ⟨hp, fun _ _ => rfl, fun j h1 h2 => by omega⟩
  | m + 1, k, p, r, p', r', h, hp => by
    obtain ⟨p1, r1, e1, e2⟩ := bd_inl h
    obtain ⟨-, g2, rfl, rfl⟩ := P_num_ok e1
    obtain ⟨i1, i2, i3⟩ := P_nums_ok m (k + 1) _ _ e2 (tNd_b hp).2
    refine ⟨i1, fun j hj => by rw [i2 j (by omega), up_ne (by omega)], fun j h1 h2 => ?_⟩
    by_cases c : j = k
    · subst c
      rw [i2 (b + j) (by omega), up_same]; exact g2
    · exact i3 j (by omega) (by omega)
def trB (r : Nat → Int) (s n : Nat) : Prop := ∀ q, q < n → ∀ k, k < 5 → tlo k ≤ r (8 + 40 * s + 5 * q + k) ∧ r (8 + 40 * s + 5 * q + k) ≤ thi k
def rlo (k : Nat) : Int := if k = 2 then -99 else 0
def rhi (k : Nat) : Int := if k = 2 then 999 else if k = 1 then 1 else 3
def ruB (r : Nat → Int) (s n : Nat) : Prop := ∀ q, q < n → ∀ k, k < 4 → rlo k ≤ r (88 + 24 * s + 4 * q + k) ∧ r (88 + 24 * s + 4 * q + k) ≤ rhi k
theorem P_puller_ok {T : Nat → Int} {L s c p p' : Nat} {r r' : Nat → Int} (hs : s < 2) (h : P_puller T L s c p r = .inl (p', r')) (hp : p ≤ L) (ht : trB r s c) (hc : c ≤ 8) : p' ≤ L ∧ c < 8 ∧ r' s = c + 1 ∧ trB r' s (c + 1) ∧ ∀ j, j ≠ s → ¬ (8 + 40 * s ≤ j ∧ j < 48 + 40 * s) → r' j = r j := by
  unfold P_puller at h
  split at h
  · cases h
  · obtain ⟨p1, r1, e1, e2⟩ := bd_inl h
    obtain ⟨p2, r2, e3, e4⟩ := bd_inl e2
    obtain ⟨i1, i2, i3⟩ := P_nums_ok _ _ _ _ e1 (tNd_b hp).2
    obtain ⟨-, rfl, rfl⟩ := P_sign_ok e3
    cases e4
    refine ⟨(tNd_b i1).2, by omega, up_same _ _ _, fun q hq k hk => ?_, fun j h1 h2 => by rw [up_ne h1, i2 j (by omega)]⟩
    rw [up_ne (by omega)]
    by_cases c2 : q = c
    · subst c2
      exact i3 k (by omega) (by omega)
    · rw [i2 _ (by omega)]
      exact ht q (by omega) k hk
theorem P_rule_ok {T : Nat → Int} {L s c p p' : Nat} {r r' : Nat → Int} (hs : s < 2) (h : P_rule T L s c p r = .inl (p', r')) (hp : p ≤ L) (ht : ruB r s c) (hc : c ≤ 6) : p' ≤ L ∧ c < 6 ∧ r' (2 + s) = c + 1 ∧ ruB r' s (c + 1) ∧ ∀ j, j ≠ 2 + s → ¬ (88 + 24 * s ≤ j ∧ j < 112 + 24 * s) → r' j = r j := by
  unfold P_rule at h
  split at h
  · cases h
  · obtain ⟨p1, r1, e1, h⟩ := bd_inl h
    obtain ⟨p2, r2, e2, h⟩ := bd_inl h
    obtain ⟨p3, r3, e3, h⟩ := bd_inl h
    obtain ⟨p4, r4, e4, h⟩ := bd_inl h
    obtain ⟨p5, r5, e5, h⟩ := bd_inl h
    cases h
    obtain ⟨a1, rfl, rfl⟩ := P_pick_ok e1
    obtain ⟨a2, rfl, rfl⟩ := P_pick_ok e2
    obtain ⟨-, a3, rfl, rfl⟩ := P_num_ok e3
    obtain ⟨a4, rfl, rfl⟩ := P_pick_ok e4
    obtain ⟨-, rfl, rfl⟩ := P_sign_ok e5
    have q1 := (tNd_b (T := T) hp).2
    have q2 := (tNd_b (T := T) q1).2
    have q3 := (tNd_b (T := T) q2).2
    have q4 := (tNd_b (T := T) q3).2
    have q5 := (tNd_b (T := T) q4).2
    have q6 := (tNd_b (T := T) q5).2
    refine ⟨q6, by omega, up_same _ _ _, fun q hq k hk => ?_, fun j h1 h2 => by rw [up_ne h1, up_ne (by omega), up_ne (by omega), up_ne (by omega), up_ne (by omega)]⟩
    rw [up_ne (by omega)]
    by_cases c2 : q = c
    · subst c2
      unfold rlo rhi
      have b1 := whatF_b (wdV T L (tNd T L p))
      have b2 := belF_b (wdV T L (tNd T L (tNd T L p)))
      have b4 := doF_b (wdV T L (tNd T L (tNd T L (tNd T L (tNd T L p)))))
      rcases (show k = 0 ∨ k = 1 ∨ k = 2 ∨ k = 3 by omega) with rfl | rfl | rfl | rfl
      · rw [up_ne (by omega), up_ne (by omega), up_ne (by omega), Nat.add_zero, up_same, if_neg (by omega), if_neg (by omega), if_neg (by omega)]; omega
      · rw [up_ne (by omega), up_ne (by omega), up_same, if_neg (by omega), if_neg (by omega), if_pos rfl]; omega
      · rw [up_ne (by omega), up_same, if_pos rfl, if_pos rfl]; exact a3
      · rw [up_same, if_neg (by omega), if_neg (by omega), if_neg (by omega)]; omega
    · rw [up_ne (by omega), up_ne (by omega), up_ne (by omega), up_ne (by omega)]
      exact ht q (by omega) k hk
theorem P_pullers_ok {T : Nat → Int} {L s : Nat} (hs : s < 2) : ∀ (n c p : Nat) (r : Nat → Int) {p' : Nat} {r' : Nat → Int}, P_pullers T L s n c p r = .inl (p', r') → p ≤ L → r s = c → trB r s c → c ≤ 8 → p' ≤ L ∧ (∃ d : Nat, r' s = d ∧ c ≤ d ∧ d ≤ 8 ∧ trB r' s d ∧ (wdV T L p = 123649632527730 → c < d)) ∧ ∀ j, j ≠ s → ¬ (8 + 40 * s ≤ j ∧ j < 48 + 40 * s) → r' j = r j
  | 0, c, p, r, p', r', h, _, _, _, _ => by cases h
  | n + 1, c, p, r, p', r', h, hp, hr, ht, hc => by
    have h : (if wdV T L p = 123649632527730 then bd (P_puller T L s c p r) (fun p r => P_pullers T L s n (c + 1) p r) else .inl (p, r)) = (.inl (p', r') : PS) := h
    split at h
    · obtain ⟨p1, r1, e1, e2⟩ := bd_inl h
      obtain ⟨g1, g2, g3, g4, g5⟩ := P_puller_ok hs e1 hp ht hc
      obtain ⟨i1, ⟨d, i2, i3, i4, i5, -⟩, i6⟩ := P_pullers_ok hs n (c + 1) p1 r1 e2 g1 g3 g4 (by omega)
      exact ⟨i1, ⟨d, i2, by omega, i4, i5, fun _ => by omega⟩, fun j h1 h2 => by rw [i6 j h1 h2, g5 j h1 h2]⟩
    · cases h
      exact ⟨hp, ⟨c, hr, Nat.le_refl _, hc, ht, fun e => absurd e (by assumption)⟩, fun _ _ _ => rfl⟩
theorem P_rules_ok {T : Nat → Int} {L s : Nat} (hs : s < 2) : ∀ (n c p : Nat) (r : Nat → Int) {p' : Nat} {r' : Nat → Int}, P_rules T L s n c p r = .inl (p', r') → p ≤ L → r (2 + s) = c → ruB r s c → c ≤ 6 → p' ≤ L ∧ (∃ d : Nat, r' (2 + s) = d ∧ d ≤ 6 ∧ ruB r' s d) ∧ ∀ j, j ≠ 2 + s → ¬ (88 + 24 * s ≤ j ∧ j < 112 + 24 * s) → r' j = r j
  | 0, c, p, r, p', r', h, _, _, _, _ => by cases h
  | n + 1, c, p, r, p', r', h, hp, hr, ht, hc => by
    have h : (if wdV T L p = 2003330414 then bd (P_rule T L s c p r) (fun p r => P_rules T L s n (c + 1) p r) else .inl (p, r)) = (.inl (p', r') : PS) := h
    split at h
    · obtain ⟨p1, r1, e1, e2⟩ := bd_inl h
      obtain ⟨g1, g2, g3, g4, g5⟩ := P_rule_ok hs e1 hp ht hc
      obtain ⟨i1, ⟨d, i2, i4, i5⟩, i6⟩ := P_rules_ok hs n (c + 1) p1 r1 e2 g1 g3 g4 (by omega)
      exact ⟨i1, ⟨d, i2, i4, i5⟩, fun j h1 h2 => by rw [i6 j h1 h2, g5 j h1 h2]⟩
    · cases h
      exact ⟨hp, ⟨c, hr, hc, ht⟩, fun _ _ _ => rfl⟩
theorem P_head_ok {T : Nat → Int} {L p p' : Nat} {r r' : Nat → Int} (h : P_head T L p r = .inl (p', r')) (hp : p ≤ L) : p' ≤ L ∧ wdV T L p' = 123649632527730 ∧ r' = r := by
  unfold P_head at h
  obtain ⟨p1, r1, e1, hx⟩ := bd_inl h
  obtain ⟨p2, r2, e2, hy⟩ := bd_inl hx
  obtain ⟨-, rfl, rfl⟩ := P_word_ok e1
  obtain ⟨-, rfl, rfl⟩ := P_sign_ok e2
  split at hy
  · cases hy
    exact ⟨(tNd_b (tNd_b hp).2).2, by assumption, rfl⟩
  · cases hy
def sdB (r : Nat → Int) (s : Nat) : Prop := ∃ d e : Nat, r s = d ∧ 1 ≤ d ∧ d ≤ 8 ∧ trB r s d ∧ r (2 + s) = e ∧ e ≤ 6 ∧ ruB r s e
theorem P_side_ok {T : Nat → Int} {L s p p' : Nat} {r r' : Nat → Int} (hs : s < 2) (h : P_side T L s p r = .inl (p', r')) (hp : p ≤ L) (h0 : r s = 0) (h2 : r (2 + s) = 0) : p' ≤ L ∧ sdB r' s ∧ ∀ j, j ≠ s → j ≠ 2 + s → ¬ (8 + 40 * s ≤ j ∧ j < 48 + 40 * s) → ¬ (88 + 24 * s ≤ j ∧ j < 112 + 24 * s) → r' j = r j := by
  unfold P_side at h
  obtain ⟨p1, r1, e1, hx⟩ := bd_inl h
  obtain ⟨p2, r2, e2, hy⟩ := bd_inl hx
  obtain ⟨g1, g2, rfl⟩ := P_head_ok e1 hp
  obtain ⟨i1, ⟨d, i2, i3, i4, i5, i6⟩, i7⟩ := P_pullers_ok hs 9 0 p1 r1 e2 g1 h0 (fun q hq => absurd hq (Nat.not_lt_zero _)) (by omega)
  obtain ⟨k1, ⟨e, k2, k4, k5⟩, k6⟩ := P_rules_ok hs 7 0 p2 r2 hy i1 (by rw [i7 _ (by omega) (by omega)]; exact h2) (fun q hq => absurd hq (Nat.not_lt_zero _)) (by omega)
  refine ⟨k1, ⟨d, e, by rw [k6 _ (by omega) (by omega)]; exact i2, i6 g2, i4, fun q hq k hk => ?_, k2, k4, k5⟩, fun j q1 q2 q3 q4 => by rw [k6 j q2 q4, i7 j q1 q3]⟩
  rw [k6 _ (by omega) (by omega)]
  exact i5 q hq k hk
theorem P_ground_ok {T : Nat → Int} {L p p' : Nat} {r r' : Nat → Int} (h : P_ground T L p r = .inl (p', r')) (hp : p ≤ L) (h5 : 1 ≤ r 5 ∧ r 5 ≤ 100) (h6 : 0 ≤ r 6 ∧ r 6 ≤ 20) (h7 : 1 ≤ r 7 ∧ r 7 ≤ 99) : p' ≤ L ∧ ((1 ≤ r' 5 ∧ r' 5 ≤ 100) ∧ (0 ≤ r' 6 ∧ r' 6 ≤ 20) ∧ 1 ≤ r' 7 ∧ r' 7 ≤ 99) ∧ ∀ j, ¬ (5 ≤ j ∧ j < 8) → r' j = r j := by
  unfold P_ground at h
  split at h
  · obtain ⟨p1, r1, e1, h⟩ := bd_inl h
    obtain ⟨i1, i2, i3⟩ := P_nums_ok _ _ _ _ e1 (tNd_b hp).2
    obtain ⟨-, rfl, rfl⟩ := P_sign_ok h
    exact ⟨(tNd_b i1).2, ⟨i3 0 (by omega) (by omega), i3 1 (by omega) (by omega), i3 2 (by omega) (by omega)⟩, fun j hj => i2 j (by omega)⟩
  · cases h
    exact ⟨hp, ⟨h5, h6, h7⟩, fun _ _ => rfl⟩
theorem P_text_ok {T : Nat → Int} {L p p' : Nat} {r' : Nat → Int} (h : P_text T L p row0 = .inl (p', r')) (hp : p ≤ L) : sdB r' 0 ∧ sdB r' 1 ∧ (1 ≤ r' 5 ∧ r' 5 ≤ 100) ∧ (0 ≤ r' 6 ∧ r' 6 ≤ 20) ∧ 1 ≤ r' 7 ∧ r' 7 ≤ 99 := by
  unfold P_text at h
  obtain ⟨p1, r1, e1, h⟩ := bd_inl h
  obtain ⟨p2, r2, e2, h⟩ := bd_inl h
  obtain ⟨p3, r3, e3, h⟩ := bd_inl h
  obtain ⟨g1, g2, g3⟩ := P_side_ok (by omega) e1 hp rfl rfl
  obtain ⟨k1, k2, k3⟩ := P_side_ok (by omega) e2 g1 (by rw [g3 _ (by omega) (by omega) (by omega) (by omega)]; rfl) (by rw [g3 _ (by omega) (by omega) (by omega) (by omega)]; rfl)
  have z : ∀ j, 5 ≤ j → j < 8 → r2 j = row0 j := fun j q1 q2 => by rw [k3 _ (by omega) (by omega) (by omega) (by omega), g3 _ (by omega) (by omega) (by omega) (by omega)]
  have r5 : row0 5 = 100 := rfl
  have r6 : row0 6 = 0 := rfl
  have r7 : row0 7 = 20 := rfl
  obtain ⟨i1, i2, i3⟩ := P_ground_ok e3 k1 (by rw [z 5 (by omega) (by omega), r5]; omega) (by rw [z 6 (by omega) (by omega), r6]; omega) (by rw [z 7 (by omega) (by omega), r7]; omega)
  have e4 : r' = r3 := by
    unfold P_end at h
    split at h
    · cases h; rfl
    · cases h
  subst e4
  have mv : ∀ {a b : Nat → Int} {s : Nat}, s < 2 → (∀ j, j = s ∨ j = 2 + s ∨ (8 + 40 * s ≤ j ∧ j < 48 + 40 * s) ∨ (88 + 24 * s ≤ j ∧ j < 112 + 24 * s) → b j = a j) → sdB a s → sdB b s := fun {a b s} hs hj ha => by
    obtain ⟨d, e, c1, c2, c3, c4, c5, c6, c7⟩ := ha
    refine ⟨d, e, by rw [hj _ (by omega)]; exact c1, c2, c3, fun q hq k hk => ?_, by rw [hj _ (by omega)]; exact c5, c6, fun q hq k hk => ?_⟩
    · rw [hj _ (by omega)]; exact c4 q hq k hk
    · rw [hj _ (by omega)]; exact c7 q hq k hk
  refine ⟨mv (a := r1) (by omega) (fun j hj => ?_) g2, mv (a := r2) (by omega) (fun j hj => i3 j (by omega)) k2, i2⟩
  rw [i3 j (by omega), k3 j (by omega) (by omega) (by omega) (by omega)]
