/-! bits of greater sets -/
theorem i32_nat {a : Nat} (h : a < 2147483648) : (Int32.ofInt (a : Int)).toBitVec.toNat = a := by
  show (BitVec.ofInt 32 (a : Int)).toNat = a
  rw [BitVec.toNat_ofInt]
  omega
theorem i32_int {v : Int32} (h : v.toBitVec.toNat < 2147483648) : v.toInt = (v.toBitVec.toNat : Nat) := by
  show v.toBitVec.toInt = _
  exact BitVec.toInt_eq_toNat_of_lt (by omega)
theorem n_or {a b : Nat} (ha : a < 2147483648) (hb : b < 2147483648) : hv_or a b = (a ||| b : Nat) := by
  have e : (Int32.ofInt (a : Int) ||| Int32.ofInt (b : Int)).toBitVec.toNat = a ||| b := by
    rw [Int32.toBitVec_or, BitVec.toNat_or, i32_nat ha, i32_nat hb]
  have hl : a ||| b < 2147483648 := Nat.or_lt_two_pow (n := 31) ha hb
  unfold hv_or
  rw [i32_int (by rw [e]; exact hl), e]
theorem n_and1 {a : Nat} (ha : a < 2147483648) : hv_and a 1 = (a % 2 : Nat) := by
  have e : (Int32.ofInt (a : Int) &&& Int32.ofInt 1).toBitVec.toNat = a % 2 := by
    rw [Int32.toBitVec_and, BitVec.toNat_and, i32_nat ha]
    have : (Int32.ofInt 1).toBitVec.toNat = 1 := by decide
    rw [this, Nat.and_one_is_mod]
  unfold hv_and
  rw [i32_int (by rw [e]; omega), e]
theorem n_pow : ∀ p, p ≤ 16 → hv_shl 1 (p : Nat) = (2 ^ p : Nat) := by decide +kernel
theorem n_shr {s p : Nat} (hs : s < 2147483648) (hp : p < 16) : hv_shr s p = (s / 2 ^ p : Nat) := by
  have e : (Int32.ofInt (s : Int) >>> (Int32.ofInt (p : Int) &&& 31)).toBitVec.toNat = s / 2 ^ p := by
    rw [Int32.toBitVec_shiftRight]
    have hp' : ∀ p, p < 16 → ((Int32.ofInt ((p : Nat) : Int) &&& 31).toBitVec.smod 32).toNat = p := by decide +kernel
    show ((Int32.ofInt (s : Int)).toBitVec.sshiftRight (((Int32.ofInt (p : Int) &&& 31).toBitVec.smod 32).toNat)).toNat = _
    have hm : (Int32.ofInt (s : Int)).toBitVec.msb = false := by
      rw [BitVec.msb_eq_false_iff_two_mul_lt, i32_nat hs]
      omega
    rw [hp' p hp, BitVec.sshiftRight_eq_of_msb_false hm, BitVec.toNat_ushiftRight, i32_nat hs, Nat.shiftRight_eq_div_pow]
  have hl : s / 2 ^ p ≤ s := Nat.div_le_self _ _
  unfold hv_shr
  rw [i32_int (by rw [e]; omega), e]
theorem n_add {s p : Nat} (hs : s < 65536) (hp : p < 16) (h0 : s % 2 ^ (p + 1) = 0) : hv_or s (hv_shl 1 (p : Nat)) = (s + 2 ^ p : Nat) := by
  have hpw : ∀ p, p < 16 → 2 ^ p < 65536 := by decide
  rw [n_pow p (by omega), n_or (by omega) (by have := hpw p hp; omega)]
  obtain ⟨q, hq⟩ := Nat.dvd_of_mod_eq_zero h0
  rw [hq, ← Nat.two_pow_add_eq_or_of_lt (Nat.pow_lt_pow_right (by decide) (Nat.lt_succ_self p))]
theorem n_test {s p : Nat} (hs : s < 65536) (hp : p < 16) : hv_and (hv_shr s p) 1 = (s / 2 ^ p % 2 : Nat) := by
  have hl : s / 2 ^ p ≤ s := Nat.div_le_self _ _
  rw [n_shr (by omega) hp, n_and1 (by omega)]
