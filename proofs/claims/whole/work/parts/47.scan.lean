/-! sets in the order of their bits -/
def sw (f : Nat → Int) (s : Nat) : Nat → Int
  | 0 => 0
  | p + 1 => sw f s p + if s.testBit p then f p else 0
theorem sw_s (f : Nat → Int) (s p : Nat) : sw f s (p + 1) = sw f s p + if s.testBit p then f p else 0 := rfl
theorem sw_zero (f : Nat → Int) : ∀ p, sw f 0 p = 0
  | 0 => rfl
  | p + 1 => by rw [sw_s, sw_zero f p, Nat.zero_testBit]; rfl
theorem sw_add (f : Nat → Int) {r q t : Nat} (ht : t < 2 ^ r) : ∀ p, sw f (2 ^ r * q + t) p = sw f (2 ^ r * q) p + sw f t p
  | 0 => rfl
  | p + 1 => by
    rw [sw_s, sw_s, sw_s, sw_add f ht p]
    have e1 := Nat.testBit_two_pow_mul_add q ht p
    have e2 := Nat.testBit_two_pow_mul_add q (show 0 < 2 ^ r from Nat.two_pow_pos r) p
    rw [Nat.add_zero] at e2
    rw [e1, e2]
    by_cases c : p < r
    · rw [if_pos c, if_pos c, Nat.zero_testBit]
      rw [if_neg (show ¬ (false = true) by decide)]
      omega
    · rw [if_neg c, if_neg c]
      have : t.testBit p = false := Nat.testBit_lt_two_pow (Nat.lt_of_lt_of_le ht (Nat.pow_le_pow_right (by decide) (by omega)))
      rw [this, if_neg (show ¬ (false = true) by decide)]
      omega
theorem sw_nn {f : Nat → Int} {A : Nat} (h : ∀ p, p < A → 0 ≤ f p) (s : Nat) : ∀ p, p ≤ A → 0 ≤ sw f s p
  | 0, _ => Int.le_refl _
  | p + 1, hp => by
    have := sw_nn h s p (by omega)
    have := h p (by omega)
    rw [sw_s]
    split <;> omega
def below (f : Nat → Int) : Nat → Int
  | 0 => 0
  | p + 1 => below f p + f p
theorem sw_le {f : Nat → Int} {A : Nat} (h : ∀ p, p < A → 0 ≤ f p) {r s : Nat} (hs : s < 2 ^ r) : ∀ p, p ≤ A → sw f s p ≤ below f (if p < r then p else r)
  | 0, _ => by
    show (0 : Int) ≤ below f (if 0 < r then 0 else r)
    by_cases c : 0 < r
    · rw [if_pos c]; exact Int.le_refl _
    · rw [if_neg c]
      have : r = 0 := by omega
      rw [this]; exact Int.le_refl _
  | p + 1, hp => by
    have ih := sw_le h hs p (by omega)
    have hf := h p (by omega)
    rw [sw_s]
    by_cases c : p < r
    · rw [if_pos c] at ih
      have e : (if p + 1 < r then p + 1 else r) = p + 1 := by split <;> omega
      rw [e]
      show _ ≤ below f p + f p
      split <;> omega
    · rw [if_neg c] at ih
      have : s.testBit p = false := Nat.testBit_lt_two_pow (Nat.lt_of_lt_of_le hs (Nat.pow_le_pow_right (by decide) (by omega)))
      rw [this, if_neg (show ¬ (false = true) by decide), if_neg (by omega)]
      omega
theorem sw_le' {f : Nat → Int} {A : Nat} (h : ∀ p, p < A → 0 ≤ f p) {r s : Nat} (hs : s < 2 ^ r) (hr : r ≤ A) : sw f s A ≤ below f r := by
  have := sw_le h hs A (Nat.le_refl _)
  have e : (if A < r then A else r) = r := by split <;> omega
  rw [e] at this
  exact this
theorem sw_pow {f : Nat → Int} {r : Nat} : ∀ p, sw f (2 ^ r) p = if r < p then f r else 0
  | 0 => rfl
  | p + 1 => by
    rw [sw_s, sw_pow p, Nat.testBit_two_pow]
    by_cases c : r = p
    · subst c
      rw [show decide (r = r) = true from decide_eq_true rfl, if_neg (Nat.lt_irrefl _), if_pos rfl, if_pos (Nat.lt_succ_self _)]; omega
    · rw [show decide (r = p) = false from decide_eq_false c, if_neg (show ¬ (false = true) by decide)]
      by_cases c2 : r < p
      · rw [if_pos c2, if_pos (by omega)]; omega
      · rw [if_neg c2, if_neg (by omega)]; omega
section scan
variable (wt hd : Nat → Int) (A : Nat) (w n : Int)
def stc (b : Int × Int) (s : Nat) : Int × Int := if sw wt s A ≤ w ∧ sw (fun _ => 1) s A ≤ n ∧ b.2 < sw hd s A then (s, sw hd s A) else b
def scan (b : Int × Int) (a : Nat) : Nat → Int × Int
  | 0 => b
  | k + 1 => stc wt hd A w n (scan b a k) (a + k)
theorem scan_s (b : Int × Int) (a k : Nat) : scan wt hd A w n b a (k + 1) = stc wt hd A w n (scan wt hd A w n b a k) (a + k) := rfl
theorem scan_add (b : Int × Int) (a j : Nat) : ∀ k, scan wt hd A w n b a (j + k) = scan wt hd A w n (scan wt hd A w n b a j) (a + j) k
  | 0 => rfl
  | k + 1 => by
    show stc wt hd A w n (scan wt hd A w n b a (j + k)) (a + (j + k)) = stc wt hd A w n (scan wt hd A w n (scan wt hd A w n b a j) (a + j) k) (a + j + k)
    rw [scan_add b a j k, Nat.add_assoc]
/-- nothing that counts -/
theorem scan_id {b : Int × Int} {a : Nat} : ∀ k, (∀ t, t < k → ¬ (sw wt (a + t) A ≤ w ∧ sw (fun _ => 1) (a + t) A ≤ n ∧ b.2 < sw hd (a + t) A)) → scan wt hd A w n b a k = b
  | 0, _ => rfl
  | k + 1, h => by
    rw [scan_s, scan_id k (fun t ht => h t (by omega))]
    unfold stc
    rw [if_neg (h k (Nat.lt_succ_self _))]
end scan
