/-! what holds between the class's memory and the reference's, ahead of every call -/
def I1k (k : Nat) (x : hm) : Prop := ((x (5755 + k) = -1 ∧ x (4281 + 44 * k) = 1) ∨ (0 ≤ x (5755 + k) ∧ x (5755 + k) ≤ 2 ∧ x (4281 + 44 * k) = 0 ∧ x (4281 + 44 * k + 1) = x (5755 + k))) ∧ (0 ≤ x (5763 + k) ∧ x (5763 + k) ≤ 40 ∧ x (4281 + 44 * k + 2) = x (5763 + k)) ∧ ∀ j, j < 40 → x (4285 + 44 * k + j) = x (5771 + 40 * k + j)
def I1 (x : hm) : Prop := ∀ k, k < 8 → I1k k x
def I2 (x : hm) : Prop := x 1 = x 5724
def I3 (x : hm) : Prop := (x 23 = x 5733 ∧ 0 ≤ x 23 ∧ x 23 ≤ 700) ∧ ∀ j : Nat, j < 700 → (j : Int) < x 23 → 0 ≤ x (6733 + j) ∧ x (6733 + j) < 256 ∧ x (30 + j) = if x (6733 + j) < 128 then x (6733 + j) else x (6733 + j) - 256
def I4 (x : hm) : Prop := x 3 = x 5734
/-- a match object at m holds what the row at b says -/
def RM (m b : Nat) (x : hm) : Prop :=
  (∀ s, s < 2 → x (m + 5 + 82 * s) = x (b + s) ∧ x (m + 7 + 82 * s) = x (b + 2 + s) ∧
    (∀ p : Nat, p < 8 → (p : Int) < x (b + s) → ∀ k, k < 5 → x (m + 17 + 82 * s + 5 * p + k) = x (b + 8 + 40 * s + 5 * p + k)) ∧
    (∀ r : Nat, r < 6 → (r : Int) < x (b + 2 + s) → ∀ k, k < 4 → x (m + 63 + 82 * s + 4 * r + k) = x (b + 88 + 24 * s + 4 * r + k))) ∧
  ∀ i, i < 3 → x (m + 169 + i) = x (b + 5 + i)
/-- a match that was read, in its bounds -/
def OM (b : Nat) (x : hm) : Prop :=
  (∀ s, s < 2 → (1 ≤ x (b + s) ∧ x (b + s) ≤ 8 ∧ 0 ≤ x (b + 2 + s) ∧ x (b + 2 + s) ≤ 6) ∧
    (∀ p : Nat, p < 8 → (p : Int) < x (b + s) → (40 ≤ x (b + 8 + 40 * s + 5 * p) ∧ x (b + 8 + 40 * s + 5 * p) ≤ 150) ∧ (1 ≤ x (b + 8 + 40 * s + 5 * p + 1) ∧ x (b + 8 + 40 * s + 5 * p + 1) ≤ 200) ∧ (1 ≤ x (b + 8 + 40 * s + 5 * p + 2) ∧ x (b + 8 + 40 * s + 5 * p + 2) ≤ 400) ∧ (1 ≤ x (b + 8 + 40 * s + 5 * p + 3) ∧ x (b + 8 + 40 * s + 5 * p + 3) ≤ 60) ∧ (0 ≤ x (b + 8 + 40 * s + 5 * p + 4) ∧ x (b + 8 + 40 * s + 5 * p + 4) ≤ 5)) ∧
    (∀ r : Nat, r < 6 → (r : Int) < x (b + 2 + s) → (0 ≤ x (b + 88 + 24 * s + 4 * r) ∧ x (b + 88 + 24 * s + 4 * r) ≤ 3) ∧ (0 ≤ x (b + 88 + 24 * s + 4 * r + 1) ∧ x (b + 88 + 24 * s + 4 * r + 1) ≤ 1) ∧ (-99 ≤ x (b + 88 + 24 * s + 4 * r + 2) ∧ x (b + 88 + 24 * s + 4 * r + 2) ≤ 999) ∧ (0 ≤ x (b + 88 + 24 * s + 4 * r + 3) ∧ x (b + 88 + 24 * s + 4 * r + 3) ≤ 3))) ∧
  (1 ≤ x (b + 5) ∧ x (b + 5) ≤ 100) ∧ (0 ≤ x (b + 6) ∧ x (b + 6) ≤ 20) ∧ (1 ≤ x (b + 7) ∧ x (b + 7) ≤ 99)
def ZM (b : Nat) (x : hm) : Prop := ∀ k, k < 136 → x (b + k) = 0
/-- a match object and its row, standing or not -/
def I5 (x : hm) : Prop := x 730 = x 5730 ∧ ((x 730 = 0 ∧ ZM 6091 x) ∨ (x 730 = 1 ∧ OM 6091 x)) ∧ RM 730 6091 x
def nb (v : Int) : Int := if v < 0 then -1000000 else v
/-- a pull object at t holds what the row at w says, of a match at b -/
def RT (t b w : Nat) (x : hm) : Prop :=
  x (t + 1) = x (w + 2) ∧ (x (t + 12) = x w ∧ x (t + 13) = x (w + 1)) ∧
  (x (w + 2) = 1 → (x (t + 2) = x (w + 3) ∧ x (t + 3) = x (w + 4) ∧ x (t + 4) = x (w + 5) ∧ x (t + 5) = nb (x (w + 6)) ∧ x (t + 6) = nb (x (w + 7)) ∧ x (t + 7) = if x (w + 7) < 0 then -1000000 else x (w + 8)) ∧
    (∀ s, s < 2 → ∀ p : Nat, p < 8 → (p : Int) < x (b + s) → x (t + 16 + 8 * s + p) = x (w + 10 + 8 * s + p) ∧ (0 < x (w + 5) → x (t + 34 + 8 * s + p) = x (w + 26 + 8 * s + p) ∧ x (t + 52 + 8 * s + p) = x (w + 42 + 8 * s + p))) ∧
    (∀ ago : Nat, ago < 60 → (ago : Int) < x (w + 5) → ∀ q, q < 5 → x (t + 73 + 60 * q + ((x (w + 5)).toNat - 1 - ago) % 60) = x (w + 70 + 5 * ago + q)))
/-- the row of a pull, in its bounds -/
def OT (b w : Nat) (N : Int) (x : hm) : Prop :=
  (x (w + 2) = 0 ∨ x (w + 2) = 1) ∧ (x (w + 2) = 0 → ∀ k, 2 ≤ k → k < 370 → x (w + k) = 0) ∧
  (x (w + 2) = 1 → ((x (w + 3) = 0 ∨ x (w + 3) = 1) ∧ (-102 ≤ x (w + 4) ∧ x (w + 4) ≤ 102) ∧ (0 ≤ x (w + 5) ∧ x (w + 5) ≤ N) ∧ (-1 ≤ x (w + 6) ∧ x (w + 6) ≤ 1) ∧ (-1 ≤ x (w + 7) ∧ x (w + 7) ≤ 15) ∧ x (w + 9) = min (x (w + 5)) 60 ∧ (x (w + 6) = -1 → - x (b + 7) < x (w + 4) ∧ x (w + 4) < x (b + 7))) ∧
    (∀ s, s < 2 → ∀ p : Nat, p < 8 → (p : Int) < x (b + s) → (0 ≤ x (w + 10 + 8 * s + p) ∧ x (w + 10 + 8 * s + p) ≤ 60) ∧ (x (w + 5) = 0 → x (w + 26 + 8 * s + p) = -1000000 ∧ x (w + 42 + 8 * s + p) = -1000000) ∧ (0 < x (w + 5) → (0 ≤ x (w + 26 + 8 * s + p) ∧ x (w + 26 + 8 * s + p) ≤ 4) ∧ 0 ≤ x (w + 42 + 8 * s + p) ∧ x (w + 42 + 8 * s + p) ≤ 400)) ∧
    (∀ j : Nat, j < 6 → ∀ s, s < 2 → x (w + 58 + 2 * j + s) = if (j : Int) < x (w + 5) then x (w + 70 + 5 * j + s) else 0) ∧
    (∀ ago : Nat, ago < 60 → (ago : Int) < x (w + 5) → ∀ s, s < 2 → 0 ≤ x (w + 70 + 5 * ago + s) ∧ x (w + 70 + 5 * ago + s) ≤ 3)) ∧
  ((x (b) ≠ 0) → (1 ≤ x w ∧ x w ≤ 100) ∧ 1 ≤ x (w + 1) ∧ x (w + 1) ≤ 100)
def I6 (n : Nat) (x : hm) : Prop := RT 1074 6091 6363 x ∧ OT 6091 6363 (100 * n) x ∧ (x 5730 = 0 → x 6365 = 0)
def I7 (n : Nat) (x : hm) : Prop := ∀ k, k < 2 → x (8265 + k) = x (4633 + 545 * k) ∧ (x (8265 + k) = 0 ∨ ((x (8265 + k) = 1 ∧ x 5730 = 1) ∧ RM (4633 + 545 * k) (8267 + 136 * k) x ∧ OM (8267 + 136 * k) x ∧ RT (4805 + 545 * k) (8267 + 136 * k) (8539 + 370 * k) x ∧ OT (8267 + 136 * k) (8539 + 370 * k) (100 * n) x))
def I8 (x : hm) : Prop := x 2118 = 0
/-- the game's tables: what one can, what becomes of breath, what is gained -/
def g_can (mv br : Int) : Bool := decide ((if mv = 1 then 2 else if mv = 2 then 1 else 0) ≤ br)
def g_br (mv br : Int) : Int := if mv = 0 then (if br < 9 then br + 1 else 9) else if mv = 1 then br - 2 else br - 1
def g_gain (one two : Int) : Int := if one = two then 0 else if one = 1 then (if two = 0 then 2 else -3) else if two = 1 then (if one = 0 then -2 else 3) else if one = 2 then -1 else 1
/-- the worst of a move: V is the value of a tenth less -/
def g_worst (V : Int → Int → Int) (a b mv : Int) : Int :=
  let v0 := g_gain mv 0 + V (g_br mv a) (g_br 0 b)
  let v1 := if g_can 1 b then min v0 (g_gain mv 1 + V (g_br mv a) (g_br 1 b)) else v0
  if g_can 2 b then min v1 (g_gain mv 2 + V (g_br mv a) (g_br 2 b)) else v1
def g_best (V : Int → Int → Int) (a b : Int) : Int :=
  let m1 := if g_can 1 a ∧ g_worst V a b 0 < g_worst V a b 1 then 1 else 0
  if g_can 2 a ∧ g_worst V a b m1 < g_worst V a b 2 then 2 else m1
def g_V : Nat → Int → Int → Int
  | 0, _, _ => 0
  | t + 1, a, b => g_worst (g_V t) a b (g_best (g_V t) a b)
def I9 (x : hm) : Prop := (0 ≤ x 2136 ∧ x 2136 ≤ 20) ∧ ∀ t : Nat, t ≤ 20 → (t : Int) ≤ x 2136 → ∀ a b : Nat, a < 10 → b < 10 → x (2158 + 100 * t + (10 * a + b)) = g_V t a b
def I10 (x : hm) : Prop := (x 4264 = x 5754 ∧ 0 ≤ x 4264 ∧ x 4264 ≤ 16) ∧ ∀ j : Nat, j < 16 → (j : Int) < x 4264 → x (4265 + j) = x (9279 + j)
def IV (n : Nat) (x : hm) : Prop := I1 x ∧ I2 x ∧ I3 x ∧ I4 x ∧ I5 x ∧ I6 n x ∧ I7 n x ∧ I8 x ∧ I9 x ∧ I10 x
theorem I1_congr {x y : hm} (h : ∀ a, (4281 ≤ a ∧ a < 4633) ∨ (5755 ≤ a ∧ a < 6091) → y a = x a) (hx : I1 x) : I1 y := by
  intro k hk
  have h1 := hx k hk
  unfold I1k at h1 ⊢
  rw [h (5755 + k) (by omega), h (4281 + 44 * k) (by omega), h (4281 + 44 * k + 1) (by omega), h (4281 + 44 * k + 2) (by omega), h (5763 + k) (by omega)]
  refine ⟨h1.1, h1.2.1, fun j hj => ?_⟩
  rw [h _ (by omega), h _ (by omega)]
  exact h1.2.2 j hj
theorem I2_congr {x y : hm} (h : ∀ a, a = 1 ∨ a = 5724 → y a = x a) (hx : I2 x) : I2 y := by
  unfold I2 at hx ⊢
  rw [h _ (by omega), h _ (by omega)]
  exact hx
theorem I3_congr {x y : hm} (h : ∀ a, a = 23 ∨ (30 ≤ a ∧ a < 730) ∨ a = 5733 ∨ (6733 ≤ a ∧ a < 7433) → y a = x a) (hx : I3 x) : I3 y := by
  unfold I3 at hx ⊢
  rw [h 23 (by omega), h 5733 (by omega)]
  refine ⟨hx.1, fun j hj hl => ?_⟩
  rw [h (6733 + j) (by omega), h (30 + j) (by omega)]
  exact hx.2 j hj hl
theorem I4_congr {x y : hm} (h : ∀ a, a = 3 ∨ a = 5734 → y a = x a) (hx : I4 x) : I4 y := by
  unfold I4 at hx ⊢
  rw [h _ (by omega), h _ (by omega)]
  exact hx
/-- the same, from other places and another memory -/
theorem RM_move {m b m' b' : Nat} {x y : hm} (h1 : ∀ k, k < 172 → y (m' + k) = x (m + k)) (h2 : ∀ k, k < 136 → y (b' + k) = x (b + k)) (hx : RM m b x) : RM m' b' y := by
  have e1 : ∀ {q k : Nat}, q = m' + k → k < 172 → y q = x (m + k) := fun hq hk => by rw [hq]; exact h1 _ hk
  have e2 : ∀ {q k : Nat}, q = b' + k → k < 136 → y q = x (b + k) := fun hq hk => by rw [hq]; exact h2 _ hk
  refine ⟨fun s hs => ?_, fun i hi => ?_⟩
  · obtain ⟨g1, g2, g3, g4⟩ := hx.1 s hs
    rw [e1 (q := m' + 5 + 82 * s) (k := 5 + 82 * s) (by omega) (by omega), e2 (q := b' + s) (k := s) (by omega) (by omega), e1 (q := m' + 7 + 82 * s) (k := 7 + 82 * s) (by omega) (by omega), e2 (q := b' + 2 + s) (k := 2 + s) (by omega) (by omega)]
    refine ⟨by rw [← g1]; congr 1; omega, by rw [← Nat.add_assoc b, ← g2]; congr 1; omega, fun p hp hl k hk => ?_, fun r hr hl k hk => ?_⟩
    · rw [e1 (q := m' + 17 + 82 * s + 5 * p + k) (k := 17 + 82 * s + 5 * p + k) (by omega) (by omega), e2 (q := b' + 8 + 40 * s + 5 * p + k) (k := 8 + 40 * s + 5 * p + k) (by omega) (by omega)]
      have := g3 p hp hl k hk
      rw [show m + (17 + 82 * s + 5 * p + k) = m + 17 + 82 * s + 5 * p + k by omega, show b + (8 + 40 * s + 5 * p + k) = b + 8 + 40 * s + 5 * p + k by omega]
      exact this
    · rw [e1 (q := m' + 63 + 82 * s + 4 * r + k) (k := 63 + 82 * s + 4 * r + k) (by omega) (by omega), e2 (q := b' + 88 + 24 * s + 4 * r + k) (k := 88 + 24 * s + 4 * r + k) (by omega) (by omega)]
      rw [← Nat.add_assoc b] at hl
      have := g4 r hr hl k hk
      rw [show m + (63 + 82 * s + 4 * r + k) = m + 63 + 82 * s + 4 * r + k by omega, show b + (88 + 24 * s + 4 * r + k) = b + 88 + 24 * s + 4 * r + k by omega]
      exact this
  · rw [e1 (q := m' + 169 + i) (k := 169 + i) (by omega) (by omega), e2 (q := b' + 5 + i) (k := 5 + i) (by omega) (by omega), ← Nat.add_assoc, ← Nat.add_assoc]
    exact hx.2 i hi
theorem OM_move {b b' : Nat} {x y : hm} (h2 : ∀ k, k < 136 → y (b' + k) = x (b + k)) (hx : OM b x) : OM b' y := by
  have e2 : ∀ {q p : Nat}, (q - b') < 136 → b' ≤ q → p = b + (q - b') → y q = x p := fun {q p} hk hq hp => by
    have := h2 _ hk
    rw [show b' + (q - b') = q by omega] at this
    rw [this, hp]
  refine ⟨fun s hs => ?_, ?_, ?_, ?_⟩
  · obtain ⟨g1, g3, g4⟩ := hx.1 s hs
    rw [e2 (q := b' + s) (p := b + s) (by omega) (by omega) (by omega), e2 (q := b' + 2 + s) (p := b + 2 + s) (by omega) (by omega) (by omega)]
    refine ⟨g1, fun p hp hl => ?_, fun r hr hl => ?_⟩
    · have := g3 p hp hl
      rw [e2 (q := b' + 8 + 40 * s + 5 * p) (p := b + 8 + 40 * s + 5 * p) (by omega) (by omega) (by omega), e2 (q := b' + 8 + 40 * s + 5 * p + 1) (p := b + 8 + 40 * s + 5 * p + 1) (by omega) (by omega) (by omega), e2 (q := b' + 8 + 40 * s + 5 * p + 2) (p := b + 8 + 40 * s + 5 * p + 2) (by omega) (by omega) (by omega), e2 (q := b' + 8 + 40 * s + 5 * p + 3) (p := b + 8 + 40 * s + 5 * p + 3) (by omega) (by omega) (by omega), e2 (q := b' + 8 + 40 * s + 5 * p + 4) (p := b + 8 + 40 * s + 5 * p + 4) (by omega) (by omega) (by omega)]
      exact this
    · have := g4 r hr hl
      rw [e2 (q := b' + 88 + 24 * s + 4 * r) (p := b + 88 + 24 * s + 4 * r) (by omega) (by omega) (by omega), e2 (q := b' + 88 + 24 * s + 4 * r + 1) (p := b + 88 + 24 * s + 4 * r + 1) (by omega) (by omega) (by omega), e2 (q := b' + 88 + 24 * s + 4 * r + 2) (p := b + 88 + 24 * s + 4 * r + 2) (by omega) (by omega) (by omega), e2 (q := b' + 88 + 24 * s + 4 * r + 3) (p := b + 88 + 24 * s + 4 * r + 3) (by omega) (by omega) (by omega)]
      exact this
  · rw [h2 5 (by omega)]; exact hx.2.1
  · rw [h2 6 (by omega)]; exact hx.2.2.1
  · rw [h2 7 (by omega)]; exact hx.2.2.2
theorem RT_move {t b w t' b' w' : Nat} {x y : hm} (h1 : ∀ k, k < 373 → y (t' + k) = x (t + k)) (h2 : ∀ k, k < 136 → y (b' + k) = x (b + k)) (h3 : ∀ k, k < 370 → y (w' + k) = x (w + k)) (hx : RT t b w x) : RT t' b' w' y := by
  have e1 : ∀ {q p : Nat}, (q - t') < 373 → t' ≤ q → p = t + (q - t') → y q = x p := fun {q p} hk hq hp => by
    have := h1 _ hk
    rw [show t' + (q - t') = q by omega] at this
    rw [this, hp]
  have e3 : ∀ {q p : Nat}, (q - w') < 370 → w' ≤ q → p = w + (q - w') → y q = x p := fun {q p} hk hq hp => by
    have := h3 _ hk
    rw [show w' + (q - w') = q by omega] at this
    rw [this, hp]
  obtain ⟨g1, ⟨g2, g2'⟩, g3⟩ := hx
  have hw0 : y w' = x w := by have := h3 0 (by omega); simpa using this
  unfold RT
  rw [h1 1 (by omega), h3 2 (by omega), h1 12 (by omega), h1 13 (by omega), hw0, h3 1 (by omega), h1 2 (by omega), h1 3 (by omega), h1 4 (by omega), h1 5 (by omega), h1 6 (by omega), h1 7 (by omega), h3 3 (by omega), h3 4 (by omega), h3 5 (by omega), h3 6 (by omega), h3 7 (by omega), h3 8 (by omega)]
  refine ⟨g1, ⟨g2, g2'⟩, fun hb => ?_⟩
  obtain ⟨q1, q2, q3⟩ := g3 hb
  refine ⟨q1, fun s hs p hp hl => ?_, fun ago ha hl q hq => ?_⟩
  · rw [h2 s (by omega)] at hl
    have := q2 s hs p hp hl
    rw [e1 (q := t' + 16 + 8 * s + p) (p := t + 16 + 8 * s + p) (by omega) (by omega) (by omega), e3 (q := w' + 10 + 8 * s + p) (p := w + 10 + 8 * s + p) (by omega) (by omega) (by omega), e1 (q := t' + 34 + 8 * s + p) (p := t + 34 + 8 * s + p) (by omega) (by omega) (by omega), e3 (q := w' + 26 + 8 * s + p) (p := w + 26 + 8 * s + p) (by omega) (by omega) (by omega), e1 (q := t' + 52 + 8 * s + p) (p := t + 52 + 8 * s + p) (by omega) (by omega) (by omega), e3 (q := w' + 42 + 8 * s + p) (p := w + 42 + 8 * s + p) (by omega) (by omega) (by omega)]
    exact this
  · have := q3 ago ha hl q hq
    have hm : ((x (w + 5)).toNat - 1 - ago) % 60 < 60 := Nat.mod_lt _ (by decide)
    rw [e1 (q := t' + 73 + 60 * q + ((x (w + 5)).toNat - 1 - ago) % 60) (p := t + 73 + 60 * q + ((x (w + 5)).toNat - 1 - ago) % 60) (by omega) (by omega) (by omega), e3 (q := w' + 70 + 5 * ago + q) (p := w + 70 + 5 * ago + q) (by omega) (by omega) (by omega)]
    exact this
theorem OT_move {b w b' w' : Nat} {N N' : Int} {x y : hm} (hN : N ≤ N') (h2 : ∀ k, k < 136 → y (b' + k) = x (b + k)) (h3 : ∀ k, k < 370 → y (w' + k) = x (w + k)) (hx : OT b w N x) : OT b' w' N' y := by
  have e3 : ∀ {q p : Nat}, (q - w') < 370 → w' ≤ q → p = w + (q - w') → y q = x p := fun {q p} hk hq hp => by
    have := h3 _ hk
    rw [show w' + (q - w') = q by omega] at this
    rw [this, hp]
  have hw0 : y w' = x w := by have := h3 0 (by omega); simpa using this
  have hb0 : y b' = x b := by have := h2 0 (by omega); simpa using this
  obtain ⟨g1, g2, g3, g4⟩ := hx
  unfold OT
  rw [h3 2 (by omega), hw0, h3 1 (by omega), hb0, h3 3 (by omega), h3 4 (by omega), h3 5 (by omega), h3 6 (by omega), h3 7 (by omega), h3 9 (by omega), h2 7 (by omega)]
  refine ⟨g1, fun h0 k hk hk2 => by rw [h3 k hk2]; exact g2 h0 k hk hk2, fun hb => ?_, g4⟩
  obtain ⟨⟨q1, q2, q3, q4, q5, q6, q7⟩, r1, r2, r3⟩ := g3 hb
  refine ⟨⟨q1, q2, ⟨q3.1, by omega⟩, q4, q5, q6, q7⟩, fun s hs p hp hl => ?_, fun j hj s hs => ?_, fun ago ha hl s hs => ?_⟩
  · rw [h2 s (by omega)] at hl
    have := r1 s hs p hp hl
    rw [e3 (q := w' + 10 + 8 * s + p) (p := w + 10 + 8 * s + p) (by omega) (by omega) (by omega), e3 (q := w' + 26 + 8 * s + p) (p := w + 26 + 8 * s + p) (by omega) (by omega) (by omega), e3 (q := w' + 42 + 8 * s + p) (p := w + 42 + 8 * s + p) (by omega) (by omega) (by omega)]
    exact this
  · have := r2 j hj s hs
    rw [e3 (q := w' + 58 + 2 * j + s) (p := w + 58 + 2 * j + s) (by omega) (by omega) (by omega), e3 (q := w' + 70 + 5 * j + s) (p := w + 70 + 5 * j + s) (by omega) (by omega) (by omega)]
    exact this
  · have := r3 ago ha hl s hs
    rw [e3 (q := w' + 70 + 5 * ago + s) (p := w + 70 + 5 * ago + s) (by omega) (by omega) (by omega)]
    exact this
theorem I5_congr {x y : hm} (h : ∀ a, (730 ≤ a ∧ a < 902) ∨ a = 5730 ∨ (6091 ≤ a ∧ a < 6227) → y a = x a) (hx : I5 x) : I5 y := by
  unfold I5 at hx ⊢
  rw [h 730 (by omega), h 5730 (by omega)]
  refine ⟨hx.1, ?_, RM_move (fun k hk => h _ (by omega)) (fun k hk => h _ (by omega)) hx.2.2⟩
  rcases hx.2.1 with ⟨a, b⟩ | ⟨a, b⟩
  · exact Or.inl ⟨a, fun k hk => by rw [h _ (by omega)]; exact b k hk⟩
  · exact Or.inr ⟨a, OM_move (fun k hk => h _ (by omega)) b⟩
theorem I6_congr {n n' : Nat} {x y : hm} (hn : n ≤ n') (h : ∀ a, (1074 ≤ a ∧ a < 1447) ∨ a = 5730 ∨ (6091 ≤ a ∧ a < 6227) ∨ (6363 ≤ a ∧ a < 6733) → y a = x a) (hx : I6 n x) : I6 n' y := by
  unfold I6 at hx ⊢
  rw [h 5730 (by omega), h 6365 (by omega)]
  exact ⟨RT_move (fun k hk => h _ (by omega)) (fun k hk => h _ (by omega)) (fun k hk => h _ (by omega)) hx.1, OT_move (by omega) (fun k hk => h _ (by omega)) (fun k hk => h _ (by omega)) hx.2.1, hx.2.2⟩
theorem I7_congr {n n' : Nat} {x y : hm} (hn : n ≤ n') (h : ∀ a, (4633 ≤ a ∧ a < 5723) ∨ (8265 ≤ a ∧ a < 9279) ∨ a = 5730 → y a = x a) (hx : I7 n x) : I7 n' y := by
  intro k hk
  obtain ⟨h1, h2⟩ := hx k hk
  rw [h (8265 + k) (by omega), h (4633 + 545 * k) (by omega), h 5730 (by omega)]
  refine ⟨h1, ?_⟩
  rcases h2 with a | ⟨a, g1, g2, g3, g4⟩
  · exact Or.inl a
  · exact Or.inr ⟨a, RM_move (fun k hk => h _ (by omega)) (fun k hk => h _ (by omega)) g1, OM_move (fun k hk => h _ (by omega)) g2, RT_move (fun k hk => h _ (by omega)) (fun k hk => h _ (by omega)) (fun k hk => h _ (by omega)) g3, OT_move (by omega) (fun k hk => h _ (by omega)) (fun k hk => h _ (by omega)) g4⟩
theorem I8_congr {x y : hm} (h : ∀ a, a = 2118 → y a = x a) (hx : I8 x) : I8 y := by
  unfold I8 at hx ⊢
  rw [h _ rfl]
  exact hx
theorem I9_congr {x y : hm} (h : ∀ a, a = 2136 ∨ (2158 ≤ a ∧ a < 4258) → y a = x a) (hx : I9 x) : I9 y := by
  unfold I9 at hx ⊢
  rw [h 2136 (by omega)]
  exact ⟨hx.1, fun t ht hl a b ha hb => by rw [h _ (by omega)]; exact hx.2 t ht hl a b ha hb⟩
theorem I10_congr {x y : hm} (h : ∀ a, (4264 ≤ a ∧ a < 4281) ∨ a = 5754 ∨ (9279 ≤ a ∧ a < 9295) → y a = x a) (hx : I10 x) : I10 y := by
  unfold I10 at hx ⊢
  rw [h 4264 (by omega), h 5754 (by omega)]
  exact ⟨hx.1, fun j hj hl => by rw [h _ (by omega), h _ (by omega)]; exact hx.2 j hj hl⟩
