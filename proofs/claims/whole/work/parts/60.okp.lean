/-! a tenth: the bounds of every puller -/
theorem okV.okP2 {t : Nat} {N : Int} {x z : hm} (hV : okV t N x z) {o : Int} (ho : 0 ≤ o ∧ o ≤ 3) {s c : Nat} (hs : s < 2) (hc : z (6091 + s) = c) : okP2 z o s c := by
  have hbr := hV.br
  obtain ⟨v1, v2, v3, v4, v5, v6⟩ := hV
  have hcn := (v6.1 s hs).1
  obtain ⟨-, -, r2, r3⟩ := v3.2.2.1 v4
  intro p hp
  have tr := (v6.1 s hs).2.1 p (by omega) (by omega)
  have e1 : tw z s p 1 = z (6091 + 8 + 40 * s + 5 * p + 1) := by unfold tw; congr 1; omega
  have e2 : tw z s p 2 = z (6091 + 8 + 40 * s + 5 * p + 2) := by unfold tw; congr 1; omega
  have e4 : tw z s p 4 = z (6091 + 8 + 40 * s + 5 * p + 4) := by unfold tw; congr 1; omega
  rw [e1, e2, e4]
  refine ⟨tr.2.1, tr.2.2.1, tr.2.2.2.2, hbr s p hs (by omega) (by omega), ?_⟩
  unfold pD ordz
  rw [e4]
  by_cases c0 : (z (6091 + 8 + 40 * s + 5 * p + 4)).toNat = 0
  · rw [if_pos c0]; exact ho
  · rw [if_neg c0]
    have hl : (z (6091 + 8 + 40 * s + 5 * p + 4)).toNat ≤ 5 := by omega
    generalize (z (6091 + 8 + 40 * s + 5 * p + 4)).toNat = lag at c0 hl
    have h2 := r2 (lag - 1) (by omega) s hs
    rw [show 6363 + (58 + 2 * (lag - 1) + s) = 6363 + 58 + 2 * (lag - 1) + s by omega, h2]
    by_cases c1 : ((lag - 1 : Nat) : Int) < z (6363 + 5)
    · rw [if_pos c1]
      exact r3 (lag - 1) (by omega) c1 s hs
    · rw [if_neg c1]; omega
