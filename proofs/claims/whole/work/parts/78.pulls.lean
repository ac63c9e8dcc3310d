/-! three pulls, as a function of the rows -/
theorem eqN.refl (z : hm) : eqN z z := ⟨fun _ _ => rfl, fun _ _ => rfl⟩
theorem goR_c : ∀ (n k : Nat) {y z : hm}, eqN y z → OM 6091 z → (goF chR n k y).1 = (goF chR n k z).1 ∧ eqN (goF chR n k y).2 (goF chR n k z).2
  | 0, _, _, _, h, _ => ⟨rfl, h⟩
  | n + 1, k, y, z, h, hO => by
    by_cases c : z 6369 < 0
    · have c' : y 6369 < 0 := by rw [h.now (by omega) (by omega)]; exact c
      rw [goF_on _ c, goF_on _ c']
      have e : chR k y = chR k z := by
        unfold chR
        rw [ruleF_c h hO (show 0 < 2 by omega), ruleF_c h hO (show 1 < 2 by omega)]
      rw [e]
      have := goR_c n (k + 1) (tenH_c h hO (chR k z).1 (chR k z).2) (tenH_OM (chR k z).1 (chR k z).2 hO)
      exact ⟨by rw [this.1], this.2⟩
    · have c' : ¬ y 6369 < 0 := by rw [h.now (by omega) (by omega)]; exact c
      rw [goF_off _ c, goF_off _ c']
      exact ⟨rfl, h⟩
theorem goR_OT : ∀ (n k : Nat) {N : Int} {z : hm}, OM 6091 z → OT 6091 6363 N z → z 6365 = 1 → OM 6091 (goF chR n k z).2 ∧ OT 6091 6363 (N + n) (goF chR n k z).2 ∧ (goF chR n k z).2 6365 = 1 ∧ ∀ q, q < 136 → (goF chR n k z).2 (6091 + q) = z (6091 + q)
  | 0, _, N, z, hO, hT, hb => ⟨hO, OT_le (by show N ≤ N + ((0 : Nat) : Int); omega) hT, hb, fun _ _ => rfl⟩
  | n + 1, k, N, z, hO, hT, hb => by
    by_cases c : z 6369 < 0
    · rw [goF_on _ c]
      have b0 := ruleF_b hO (show 0 < 2 by omega)
      have b1 := ruleF_b hO (show 1 < 2 by omega)
      have := goR_OT n (k + 1) (tenH_OM (chR k z).1 (chR k z).2 hO) (OT_ten hO hT hb c b0 b1) (tenH_on (chR k z).1 (chR k z).2 hb)
      exact ⟨this.1, OT_le (by omega) this.2.1, this.2.2.1, fun q hq => by rw [this.2.2.2 q hq]; exact tenH_ne _ _ _ (by omega)⟩
    · rw [goF_off _ c]
      exact ⟨hO, OT_le (by omega) hT, hb, fun _ _ => rfl⟩
/-- a pull that begins -/
def stF (c : Int) (z : hm) : hm := fun a => if a = 6365 then 1 else if a = 6366 then c else if a = 6369 then -1 else if a = 6370 then -1 else if a = 6367 ∨ a = 6368 ∨ a = 6371 ∨ a = 6372 then 0 else if 6373 ≤ a ∧ a < 6389 then z (6091 + (8 + 40 * ((a - 6373) / 8) + 5 * ((a - 6373) % 8) + 3)) else if 6389 ≤ a ∧ a < 6421 then -1000000 else if 6421 ≤ a ∧ a < 6733 then 0 else z a
theorem stF_b1 (c : Int) (z : hm) : stF c z 6365 = 1 ∧ stF c z 6366 = c ∧ stF c z 6367 = 0 ∧ stF c z 6368 = 0 ∧ stF c z 6369 = -1 ∧ stF c z 6370 = -1 ∧ stF c z 6371 = 0 ∧ stF c z 6372 = 0 := ⟨rfl, rfl, rfl, rfl, rfl, rfl, rfl, rfl⟩
theorem stF_b2 (c : Int) (z : hm) : ∀ i : Nat, i < 16 → stF c z (6373 + i) = z (6091 + (8 + 40 * (i / 8) + 5 * (i % 8) + 3)) ∧ stF c z (6389 + i) = -1000000 ∧ stF c z (6405 + i) = -1000000 := by
  intro i hi
  unfold stF
  refine ⟨?_, ?_, ?_⟩
  · rw [if_neg (by omega), if_neg (by omega), if_neg (by omega), if_neg (by omega), if_neg (by omega), if_pos (by omega), show 6373 + i - 6373 = i by omega]
  · rw [if_neg (by omega), if_neg (by omega), if_neg (by omega), if_neg (by omega), if_neg (by omega), if_neg (by omega), if_pos (by omega)]
  · rw [if_neg (by omega), if_neg (by omega), if_neg (by omega), if_neg (by omega), if_neg (by omega), if_neg (by omega), if_pos (by omega)]
theorem stF_b3 (c : Int) (z : hm) : ∀ a, 6421 ≤ a → a < 6733 → stF c z a = 0 := by
  intro a h1 h2
  unfold stF
  rw [if_neg (by omega), if_neg (by omega), if_neg (by omega), if_neg (by omega), if_neg (by omega), if_neg (by omega), if_neg (by omega), if_pos (by omega)]
theorem stF_b4 (c : Int) (z : hm) : ∀ a, ¬ (6365 ≤ a ∧ a < 6733) → stF c z a = z a := by
  intro a h1
  unfold stF
  rw [if_neg (by omega), if_neg (by omega), if_neg (by omega), if_neg (by omega), if_neg (by omega), if_neg (by omega), if_neg (by omega), if_neg (by omega)]
theorem eqN_st {x y z : hm} {c : Int} (h : eqN x z) (b1 : y 6365 = 1 ∧ y 6366 = c ∧ y 6367 = 0 ∧ y 6368 = 0 ∧ y 6369 = -1 ∧ y 6370 = -1 ∧ y 6371 = 0 ∧ y 6372 = 0) (b2 : ∀ i : Nat, i < 16 → y (6373 + i) = x (6091 + (8 + 40 * (i / 8) + 5 * (i % 8) + 3)) ∧ y (6389 + i) = -1000000 ∧ y (6405 + i) = -1000000) (b3 : ∀ a, 6421 ≤ a → a < 6733 → y a = 0) (b4 : ∀ a, ¬ (6365 ≤ a ∧ a < 6733) → y a = x a) : eqN y (stF c z) := by
  refine ⟨fun k hk => by rw [b4 _ (by omega), stF_b4 _ _ _ (by omega)]; exact h.1 k hk, fun k hk => ?_⟩
  obtain ⟨u1, u2, u3, u4, u5, u6, u7, u8⟩ := b1
  obtain ⟨w1, w2, w3, w4, w5, w6, w7, w8⟩ := stF_b1 c z
  by_cases c1 : k < 2
  · rw [b4 _ (by omega), stF_b4 _ _ _ (by omega)]; exact h.2 k hk
  · by_cases c2 : k < 10
    · rcases (show k = 2 ∨ k = 3 ∨ k = 4 ∨ k = 5 ∨ k = 6 ∨ k = 7 ∨ k = 8 ∨ k = 9 by omega) with rfl | rfl | rfl | rfl | rfl | rfl | rfl | rfl
      · exact u1.trans w1.symm
      · exact u2.trans w2.symm
      · exact u3.trans w3.symm
      · exact u4.trans w4.symm
      · exact u5.trans w5.symm
      · exact u6.trans w6.symm
      · exact u7.trans w7.symm
      · exact u8.trans w8.symm
    · by_cases c3 : k < 26
      · have e1 := (b2 (k - 10) (by omega)).1
        have e2 := (stF_b2 c z (k - 10) (by omega)).1
        rw [show 6363 + k = 6373 + (k - 10) by omega, e1, e2]
        exact h.1 _ (by omega)
      · by_cases c4 : k < 42
        · have e1 := (b2 (k - 26) (by omega)).2.1
          have e2 := (stF_b2 c z (k - 26) (by omega)).2.1
          rw [show 6363 + k = 6389 + (k - 26) by omega, e1, e2]
        · by_cases c5 : k < 58
          · have e1 := (b2 (k - 42) (by omega)).2.2
            have e2 := (stF_b2 c z (k - 42) (by omega)).2.2
            rw [show 6363 + k = 6405 + (k - 42) by omega, e1, e2]
          · rw [b3 _ (by omega) (by omega), stF_b3 _ _ _ (by omega) (by omega)]
theorem stF_OM {z : hm} (c : Int) (hO : OM 6091 z) : OM 6091 (stF c z) := OM_move (fun k hk => stF_b4 _ _ _ (by omega)) hO
theorem stF_OT {z : hm} {c : Int} (hc : 0 ≤ c ∧ c ≤ 1) (hO : OM 6091 z) (hg : ∀ e, e < 2 → 1 ≤ z (6363 + e) ∧ z (6363 + e) ≤ 100) : OT 6091 6363 0 (stF c z) :=
  begun_OT (x := z) (c := c) (by omega) hc hO (stF_b1 c z) (stF_b2 c z) (stF_b3 c z) (fun k hk => stF_b4 _ _ _ (by omega)) (fun _ => by
    have g0 := hg 0 (by omega)
    have g1 := hg 1 (by omega)
    rw [stF_b4 _ _ 6363 (by omega), stF_b4 _ _ 6364 (by omega)]
    exact ⟨g0, g1⟩)
def p3 (n : Nat) (z : hm) : Nat → hm
  | 0 => z
  | k + 1 => (goF chR n 0 (stF ((k % 2 : Nat) : Int) (p3 n z k))).2
def sg (t : Int) : Int := if 0 < t then 0 else if t < 0 then 1 else -1000000
def sgn (t : Int) : Int := if t < 0 then -1 else if t = 0 then 0 else 1
def b3 (n : Nat) (z : hm) : Nat → Int
  | 0 => 0
  | k + 1 => b3 n z k + sgn (p3 n z (k + 1) 6367)
theorem b3_b (n : Nat) (z : hm) : ∀ k : Nat, - (k : Int) ≤ b3 n z k ∧ b3 n z k ≤ k
  | 0 => by show - ((0 : Nat) : Int) ≤ 0 ∧ (0 : Int) ≤ ((0 : Nat) : Int); omega
  | k + 1 => by
    have := b3_b n z k
    show - ((k + 1 : Nat) : Int) ≤ b3 n z k + sgn (p3 n z (k + 1) 6367) ∧ b3 n z k + sgn (p3 n z (k + 1) 6367) ≤ ((k + 1 : Nat) : Int)
    unfold sgn
    (repeat' split) <;> omega
theorem p3_ok {n : Nat} {z : hm} (hO : OM 6091 z) (hg : ∀ e, e < 2 → 1 ≤ z (6363 + e) ∧ z (6363 + e) ≤ 100) : ∀ k, OM 6091 (p3 n z k) ∧ (∀ e, e < 2 → 1 ≤ p3 n z k (6363 + e) ∧ p3 n z k (6363 + e) ≤ 100) ∧ ∀ q, q < 136 → p3 n z k (6091 + q) = z (6091 + q)
  | 0 => ⟨hO, hg, fun _ _ => rfl⟩
  | k + 1 => by
    obtain ⟨h1, h2, h3⟩ := p3_ok hO hg k (n := n)
    have g := goR_OT n 0 (stF_OM ((k % 2 : Nat) : Int) h1) (stF_OT (c := ((k % 2 : Nat) : Int)) (by omega) h1 h2) (stF_b1 _ _).1
    exact ⟨g.1, OT.grip g.1 g.2.1, fun q hq => by rw [← h3 q hq]; exact (g.2.2.2 q hq).trans (stF_b4 _ _ _ (by omega))⟩
def W3 (n : Nat) (z : hm) (what : Int) : Int := if what < 3 then sg (p3 n z (what.toNat + 1) 6367) else sg (b3 n z 3)
def gr0 (x : hm) : hm := fun a => if a = 6363 ∨ a = 6364 then x 6096 else x a
