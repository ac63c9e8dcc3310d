/-! a tenth: bounds, from the rows alone -/
theorem OT.br {N : Int} {z : hm} (hT : OT 6091 6363 N z) (hb : z 6365 = 1) : brB z := fun s p hs hp hl => by
  have := ((hT.2.2.1 hb).2.1 s hs p hp hl).1
  rw [show 6363 + (10 + 8 * s + p) = 6363 + 10 + 8 * s + p by omega]
  exact this
theorem okP2_of {N : Int} {z : hm} (hO : OM 6091 z) (hT : OT 6091 6363 N z) (hb : z 6365 = 1) {o : Int} (ho : 0 ≤ o ∧ o ≤ 3) {s : Nat} (hs : s < 2) : okP2 z o s (cnt z s) := by
  have hbr := hT.br hb
  have cb := cnt_b hO hs
  obtain ⟨-, -, r2, r3⟩ := hT.2.2.1 hb
  intro p hp
  have tr := (hO.1 s hs).2.1 p (by omega) (by omega)
  have e1 : tw z s p 1 = z (6091 + 8 + 40 * s + 5 * p + 1) := by unfold tw; congr 1; omega
  have e2 : tw z s p 2 = z (6091 + 8 + 40 * s + 5 * p + 2) := by unfold tw; congr 1; omega
  have e4 : tw z s p 4 = z (6091 + 8 + 40 * s + 5 * p + 4) := by unfold tw; congr 1; omega
  rw [e1, e2, e4]
  refine ⟨tr.2.1, tr.2.2.1, tr.2.2.2.2, hbr s p hs (by omega) (by omega), ?_⟩
  unfold pD ordz
  rw [e4]
  by_cases c0 : (z (6091 + 8 + 40 * s + 5 * p + 4)).toNat = 0
  · rw [if_pos c0]; exact ho
  · rw [if_neg c0]
    have hl : (z (6091 + 8 + 40 * s + 5 * p + 4)).toNat ≤ 5 := by omega
    generalize (z (6091 + 8 + 40 * s + 5 * p + 4)).toNat = lag at c0 hl
    have h2 := r2 (lag - 1) (by omega) s hs
    rw [show 6363 + (58 + 2 * (lag - 1) + s) = 6363 + 58 + 2 * (lag - 1) + s by omega, h2]
    by_cases c1 : ((lag - 1 : Nat) : Int) < z (6363 + 5)
    · rw [if_pos c1]
      exact r3 (lag - 1) (by omega) c1 s hs
    · rw [if_neg c1]; omega
theorem OT.grip {N : Int} {z : hm} (hO : OM 6091 z) (hT : OT 6091 6363 N z) : ∀ e, e < 2 → 1 ≤ z (6363 + e) ∧ z (6363 + e) ≤ 100 := by
  have h := hT.2.2.2 (by have := (hO.1 0 (by omega)).1; have e : z (6091 + 0) = z 6091 := rfl; rw [e] at this; omega)
  intro e he
  rcases (show e = 0 ∨ e = 1 by omega) with rfl | rfl
  · exact h.1
  · exact h.2
theorem frc_b {N : Int} {z : hm} (hO : OM 6091 z) (hT : OT 6091 6363 N z) (hb : z 6365 = 1) {o0 o1 : Int} (h0 : 0 ≤ o0 ∧ o0 ≤ 3) (h1 : 0 ≤ o1 ∧ o1 ≤ 3) {s : Nat} (hs : s < 2) : 0 ≤ frc z o0 o1 s ∧ frc z o0 o1 s ≤ 3200 := by
  have cb := cnt_b hO hs
  have hP := okP2_of hO hT hb (oS_b h0 h1 s) hs
  have sb := sumF_b hP (uS o0 o1 s) (cnt z s) (Nat.le_refl _)
  have g := OT.grip hO hT (eE z s) (eE_b z hs)
  have m1 : sumF z (oS o0 o1 s) (uS o0 o1 s) s (cnt z s) * z (6363 + eE z s) ≤ 3200 * 100 := Int.mul_le_mul (by omega) g.2 (by omega) (by omega)
  have m2 : 0 ≤ sumF z (oS o0 o1 s) (uS o0 o1 s) s (cnt z s) * z (6363 + eE z s) := Int.mul_nonneg sb.1 (by omega)
  unfold frc
  rw [Int.tdiv_eq_ediv_of_nonneg m2]
  omega
theorem eE_of {z : hm} (hc : z 6366 = 0 ∨ z 6366 = 1) {s e : Nat} (hs : s < 2) (he : e < 2) (h : (s : Int) + z 6366 = e ∨ (s : Int) + z 6366 = e + 2) : e = eE z s := by
  unfold eE; split <;> omega
theorem eE_eE (z : hm) {s : Nat} (hs : s < 2) : eE z (eE z s) = s := by
  unfold eE; split <;> omega
theorem eE_ne (z : hm) : eE z 0 ≠ eE z 1 := by
  unfold eE; split <;> omega
theorem uS_0 (o0 o1 : Int) : uS o0 o1 0 = if o1 = 1 then 1 else 0 := rfl
theorem uS_1 (o0 o1 : Int) : uS o0 o1 1 = if o0 = 1 then 1 else 0 := rfl
theorem oS_0 (o0 o1 : Int) : oS o0 o1 0 = o0 := rfl
theorem oS_1 (o0 o1 : Int) : oS o0 o1 1 = o1 := rfl
