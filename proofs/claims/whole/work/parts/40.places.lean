/-! stands: the greatest worth, from the full set down -/
def vl (W : Nat → Nat → Int) (T : Nat → Int) (s p : Nat) : Int := W (pc s) p + T (s + 2 ^ p)
def mxv (W : Nat → Nat → Int) (T : Nat → Int) (s : Nat) : Nat → Int
  | 0 => -1
  | p + 1 => if hs s p = 1 then mxv W T s p else if vl W T s p ≤ mxv W T s p then mxv W T s p else vl W T s p
def mxp (W : Nat → Nat → Int) (T : Nat → Int) (s : Nat) : Nat → Int
  | 0 => -1
  | p + 1 => if hs s p = 1 then mxp W T s p else if vl W T s p ≤ mxv W T s p then mxp W T s p else p
theorem mxv_s (W : Nat → Nat → Int) (T : Nat → Int) (s p : Nat) : mxv W T s (p + 1) = if hs s p = 1 then mxv W T s p else if vl W T s p ≤ mxv W T s p then mxv W T s p else vl W T s p := rfl
theorem mxp_s (W : Nat → Nat → Int) (T : Nat → Int) (s p : Nat) : mxp W T s (p + 1) = if hs s p = 1 then mxp W T s p else if vl W T s p ≤ mxv W T s p then mxp W T s p else p := rfl
theorem mx_at {W : Nat → Nat → Int} {T : Nat → Int} {s c : Nat} (h0 : ∀ p, p < c → hs s p = 0 → 0 ≤ vl W T s p) : ∀ p, p ≤ c → (mxp W T s p = -1 ∧ mxv W T s p = -1 ∧ ∀ q, q < p → hs s q = 1) ∨ (∃ b : Nat, mxp W T s p = b ∧ b < p ∧ hs s b = 0 ∧ mxv W T s p = vl W T s b ∧ ∀ q, q < p → hs s q = 0 → vl W T s q ≤ vl W T s b ∧ (q < b → vl W T s q < vl W T s b))
  | 0, _ => Or.inl ⟨rfl, rfl, fun q hq => absurd hq (Nat.not_lt_zero _)⟩
  | p + 1, hp => by
    have ih := mx_at h0 p (by omega)
    rw [mxp_s, mxv_s]
    by_cases c1 : hs s p = 1
    · rw [if_pos c1, if_pos c1]
      rcases ih with ⟨a1, a2, a3⟩ | ⟨b, a1, a2, a3, a4, a5⟩
      · refine Or.inl ⟨a1, a2, fun q hq => ?_⟩
        by_cases e : q = p
        · rw [e]; exact c1
        · exact a3 q (by omega)
      · refine Or.inr ⟨b, a1, by omega, a3, a4, fun q hq hq0 => ?_⟩
        by_cases e : q = p
        · rw [e, c1] at hq0; exact absurd hq0 (by decide)
        · exact a5 q (by omega) hq0
    · rw [if_neg c1, if_neg c1]
      have c0 : hs s p = 0 := by have := hs_b s p; omega
      have v0 := h0 p (by omega) c0
      rcases ih with ⟨a1, a2, a3⟩ | ⟨b, a1, a2, a3, a4, a5⟩
      · rw [if_neg (by omega), if_neg (by omega)]
        refine Or.inr ⟨p, rfl, by omega, c0, rfl, fun q hq hq0 => ?_⟩
        by_cases e : q = p
        · rw [e]; exact ⟨Int.le_refl _, fun h => absurd h (Nat.lt_irrefl _)⟩
        · have := a3 q (by omega); rw [this] at hq0; exact absurd hq0 (by decide)
      · rw [a4]
        by_cases c2 : vl W T s p ≤ vl W T s b
        · rw [if_pos c2, if_pos c2]
          refine Or.inr ⟨b, a1, by omega, a3, rfl, fun q hq hq0 => ?_⟩
          by_cases e : q = p
          · rw [e]; exact ⟨c2, fun h => by omega⟩
          · exact a5 q (by omega) hq0
        · rw [if_neg c2, if_neg c2]
          refine Or.inr ⟨p, rfl, by omega, c0, rfl, fun q hq hq0 => ?_⟩
          by_cases e : q = p
          · rw [e]; exact ⟨Int.le_refl _, fun h => absurd h (Nat.lt_irrefl _)⟩
          · have := a5 q (by omega) hq0
            exact ⟨by omega, fun _ => by omega⟩
/-- the table is right from k up -/
def okF (W : Nat → Nat → Int) (c : Nat) (T : Nat → Int) (k : Nat) : Prop := T (2 ^ c - 1) = 0 ∧ ∀ u, k ≤ u → u < 2 ^ c - 1 → T u = mxv W T u c
def okW (W : Nat → Nat → Int) (c : Nat) : Prop := ∀ n p, n ≤ 8 → p < c → 0 ≤ W n p ∧ W n p ≤ 60000
theorem okF_b {W : Nat → Nat → Int} {c : Nat} (hc : c ≤ 8) (hW : okW W c) {T : Nat → Int} {k : Nat} (h : okF W c T k) : ∀ d u : Nat, u + d = 2 ^ c - 1 → k ≤ u → 0 ≤ T u ∧ T u ≤ 60000 * d := by
  intro d
  induction d using Nat.strongRecOn with
  | ind d ih =>
    intro u hu hk
    by_cases e : d = 0
    · have : u = 2 ^ c - 1 := by omega
      rw [this, h.1]; omega
    · have hu1 : u < 2 ^ c - 1 := by omega
      have hpow := pow_b hc
      have v0 : ∀ p, p < c → hs u p = 0 → 0 ≤ vl W T u p ∧ vl W T u p ≤ 60000 * d := fun p hp hp0 => by
        have hin := b_in c hc u (by omega) p hp hp0
        have hpp : 1 ≤ 2 ^ p := Nat.one_le_two_pow
        have := ih (2 ^ c - 1 - (u + 2 ^ p)) (by omega) (u + 2 ^ p) (by omega) (by omega)
        have hw := hW (pc u) p (pc_b u) hp
        unfold vl
        omega
      rw [h.2 u hk hu1]
      rcases mx_at (fun p hp hp0 => (v0 p hp hp0).1) c (Nat.le_refl _) with ⟨-, -, a3⟩ | ⟨b, -, a2, a3, a4, -⟩
      · obtain ⟨p, hp, hp0⟩ := b_ex c hc u hu1
        have := a3 p hp; rw [this] at hp0; exact absurd hp0 (by decide)
      · rw [a4]; exact v0 b a2 a3
/-- two right tables are the same -/
theorem okF_eq {W : Nat → Nat → Int} {c : Nat} (hc : c ≤ 8) {T U : Nat → Int} (h : okF W c T 0) (h' : okF W c U 0) : ∀ d u : Nat, u + d = 2 ^ c - 1 → T u = U u := by
  intro d
  induction d using Nat.strongRecOn with
  | ind d ih =>
    intro u hu
    by_cases e : d = 0
    · have : u = 2 ^ c - 1 := by omega
      rw [this, h.1, h'.1]
    · have hu1 : u < 2 ^ c - 1 := by omega
      rw [h.2 u (Nat.zero_le _) hu1, h'.2 u (Nat.zero_le _) hu1]
      have hpow := pow_b hc
      have ev : ∀ p, p < c → hs u p = 0 → vl W T u p = vl W U u p := fun p hp hp0 => by
        have hin := b_in c hc u (by omega) p hp hp0
        have hpp : 1 ≤ 2 ^ p := Nat.one_le_two_pow
        unfold vl
        rw [ih (2 ^ c - 1 - (u + 2 ^ p)) (by omega) (u + 2 ^ p) (by omega)]
      have : ∀ p, p ≤ c → mxv W T u p = mxv W U u p := by
        intro p
        induction p with
        | zero => intro _; rfl
        | succ p ihp =>
          intro hp
          rw [mxv_s, mxv_s]
          rw [ihp (by omega)]
          by_cases c1 : hs u p = 1
          · rw [if_pos c1, if_pos c1]
          · have c0 : hs u p = 0 := by have := hs_b u p; omega
            rw [ev p (by omega) c0]
      exact this c (Nat.le_refl _)
theorem mxp_eq {W : Nat → Nat → Int} {c : Nat} (hc : c ≤ 8) {T U : Nat → Int} (e : ∀ u, u < 2 ^ c → T u = U u) {s : Nat} (hs1 : s < 2 ^ c) : ∀ p, p ≤ c → mxp W T s p = mxp W U s p ∧ mxv W T s p = mxv W U s p := by
  intro p
  induction p with
  | zero => intro _; exact ⟨rfl, rfl⟩
  | succ p ihp =>
    intro hp
    have ih := ihp (by omega)
    rw [mxp_s, mxp_s, mxv_s, mxv_s]
    rw [ih.1, ih.2]
    by_cases c1 : hs s p = 1
    · rw [if_pos c1, if_pos c1, if_pos c1, if_pos c1]; exact ⟨rfl, rfl⟩
    · have c0 : hs s p = 0 := by have := hs_b s p; omega
      have hin := b_in c hc s hs1 p (by omega) c0
      have : vl W T s p = vl W U s p := by unfold vl; rw [e _ hin]
      rw [this]
      exact ⟨rfl, rfl⟩
/-- the weight of a puller at a place -/
def Wt (x : hm) (sd c n p : Nat) : Int := tw x sd p 2 * (100 - 3 * (if 4 ≤ n then (n : Int) - 4 else 4 - n) + if (n : Int) = (c : Int) - 1 then 10 else 0) + tw x sd p 0 * n
