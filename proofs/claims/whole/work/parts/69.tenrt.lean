/-! a tenth, the class: what it leaves is what the rows say -/
def mrg (y z : hm) : hm := fun a => if 6363 ≤ a ∧ a < 6733 then z a else y a
theorem mrg_now {y z : hm} {a : Nat} (h : 6363 ≤ a ∧ a < 6733) : mrg y z a = z a := if_pos h
theorem mrg_ne {y z : hm} {a : Nat} (h : ¬ (6363 ≤ a ∧ a < 6733)) : mrg y z a = y a := if_neg h
def gtP (t : Nat) (x z w : hm) (o0 o1 : Int) (g : Nat) : Prop :=
  (w (t + 1) = x (t + 1) ∧ w (t + 2) = x (t + 2) ∧ w (t + 3) = thF z o0 o1 ∧ w (t + 4) = (g : Int) + 1 ∧ w (t + 5) = nb (wonF (thF z o0 o1) (z 6098)) ∧ w (t + 6) = nb (gvF z o0 o1).1 ∧ w (t + 7) = if (gvF z o0 o1).1 < 0 then -1000000 else (gvF z o0 o1).2) ∧
  (∀ e, e < 2 → w (t + 12 + e) = f_wear (z (6363 + e)) (z 6097) (oS o0 o1 (eE z e))) ∧
  (∀ s, s < 2 → ∀ p, p < cnt z s → w (t + 16 + 8 * s + p) = pL z (oS o0 o1 s) s p ∧ w (t + 34 + 8 * s + p) = pK z (oS o0 o1 s) s p ∧ w (t + 52 + 8 * s + p) = pF z (oS o0 o1 s) (uS o0 o1 s) s p) ∧
  (∀ q, q < 5 → w (t + 73 + 60 * q + g % 60) = tlF z o0 o1 (70 + q)) ∧
  (∀ q, q < 5 → ∀ j, j < 60 → j ≠ g % 60 → w (t + 73 + 60 * q + j) = x (t + 73 + 60 * q + j)) ∧
  ∀ a, ¬ (t ≤ a ∧ a < t + 373) → w a = x a
theorem okV_ten {t : Nat} (ht : IsTug t) {N : Int} {x z w : hm} (hV : okV t N x z) {o0 o1 : Int} (h0 : 0 ≤ o0 ∧ o0 ≤ 3) (h1 : 0 ≤ o1 ∧ o1 ≤ 3) (hw : z 6369 < 0) {g : Nat} (hg : z 6368 = g) (hG : gtP t x z w o0 o1 g) : okV t (N + 1) w (mrg w (tenH z o0 o1)) := by
  have htb : 1074 ≤ t ∧ t ≤ 5350 := by unfold IsTug at ht; omega
  obtain ⟨v1, v2, v3, v4, v5, v6⟩ := hV
  obtain ⟨⟨a1, a2, a3, a4, a5, a6, a7⟩, b1, b2, b3, b4, b5⟩ := hG
  have H : ∀ k, k < 370 → mrg w (tenH z o0 o1) (6363 + k) = tenF z o0 o1 k := fun k hk => by rw [mrg_now (by omega)]; exact tenH_now z o0 o1 hk
  have W : ∀ a, a < 6363 → mrg w (tenH z o0 o1) a = w a := fun a ha => mrg_ne (by omega)
  have X : ∀ a, 5723 ≤ a → a < 6363 → mrg w (tenH z o0 o1) a = z a := fun a h1 h2 => by rw [W a h2, b5 a (by omega), v1 a (by omega)]
  have Xm : ∀ a, a < 902 → mrg w (tenH z o0 o1) a = z a := fun a h1 => by rw [W a (by omega), b5 a (by omega), v1 a (by omega)]
  have e0 : ∀ k, k < 10 → mrg w (tenH z o0 o1) (6363 + k) = hdF z o0 o1 k := fun k hk => by rw [H k (by omega), tenF_hd _ _ _ hk]
  have e2 : mrg w (tenH z o0 o1) (6363 + 2) = z 6365 := e0 2 (by omega)
  have e3 : mrg w (tenH z o0 o1) (6363 + 3) = z 6366 := e0 3 (by omega)
  have e4 : mrg w (tenH z o0 o1) (6363 + 4) = thF z o0 o1 := e0 4 (by omega)
  have e5 : mrg w (tenH z o0 o1) (6363 + 5) = z 6368 + 1 := e0 5 (by omega)
  have e6 : mrg w (tenH z o0 o1) (6363 + 6) = wonF (thF z o0 o1) (z 6098) := e0 6 (by omega)
  have e7 : mrg w (tenH z o0 o1) (6363 + 7) = (gvF z o0 o1).1 := e0 7 (by omega)
  have e8 : mrg w (tenH z o0 o1) (6363 + 8) = (gvF z o0 o1).2 := e0 8 (by omega)
  have eO : OT 6091 6363 (N + 1) (mrg w (tenH z o0 o1)) := OT_move (Int.le_refl _) (fun k hk => by rw [X _ (by omega) (by omega), tenH_ne _ _ _ (by omega)]) (fun k hk => mrg_now (by omega)) (OT_ten v6 v3 v4 hw h0 h1)
  have eM : OM 6091 (mrg w (tenH z o0 o1)) := OM_move (fun k hk => X _ (by omega) (by omega)) v6
  have eR : RM 730 6091 (mrg w (tenH z o0 o1)) := RM_move (fun k hk => Xm _ (by omega)) (fun k hk => X _ (by omega) (by omega)) v5
  refine ⟨fun a ha => mrg_ne ha, ?_, eO, by rw [← v4]; exact e2, eR, eM⟩
  obtain ⟨g1, ⟨g2, g2'⟩, g3⟩ := v2
  obtain ⟨⟨c1, c2, c3, c4, c5, c6⟩, d1, d2⟩ := g3 v4
  have g1 : z (t + 1) = z 6365 := g1
  have c1 : z (t + 2) = z 6366 := c1
  unfold RT
  rw [e2, e3, e4, e5, e6, e7, e8, W (t + 1) (by omega), W (t + 12) (by omega), W (t + 13) (by omega), W (t + 2) (by omega), W (t + 3) (by omega), W (t + 4) (by omega), W (t + 5) (by omega), W (t + 6) (by omega), W (t + 7) (by omega)]
  refine ⟨by rw [a1, ← v1 _ (by omega)]; exact g1, ⟨?_, ?_⟩, fun _ => ⟨⟨by rw [a2, ← v1 _ (by omega)]; exact c1, a3, by rw [a4, hg], a5, a6, a7⟩, fun s hs p hp hl => ?_, fun ago ha hl q hq => ?_⟩⟩
  · have := b1 0 (by omega)
    have e : mrg w (tenH z o0 o1) 6363 = hdF z o0 o1 0 := e0 0 (by omega)
    rw [e]; exact this
  · have := b1 1 (by omega)
    have e : mrg w (tenH z o0 o1) (6363 + 1) = hdF z o0 o1 1 := e0 1 (by omega)
    rw [e]; exact this
  · rw [X _ (by omega) (by omega)] at hl
    have cb := cnt_b v6 hs
    have pc : p < cnt z s := by omega
    have B := b2 s hs p pc
    have q : ∀ i, i < 3 → mrg w (tenH z o0 o1) (6363 + 10 + 16 * i + 8 * s + p) = (if i = 0 then pL z (oS o0 o1 s) s p else if i = 1 then pK z (oS o0 o1 s) s p else pF z (oS o0 o1 s) (uS o0 o1 s) s p) := fun i hi => by
      rw [show 6363 + 10 + 16 * i + 8 * s + p = 6363 + (10 + 16 * i + 8 * s + p) by omega, H _ (by omega), tenF_md _ _ _ hi hs hp]
      unfold mdF
      rw [if_pos pc]
    have q0 : mrg w (tenH z o0 o1) (6363 + 10 + 8 * s + p) = pL z (oS o0 o1 s) s p := q 0 (by omega)
    have q1 : mrg w (tenH z o0 o1) (6363 + 26 + 8 * s + p) = pK z (oS o0 o1 s) s p := q 1 (by omega)
    have q2 : mrg w (tenH z o0 o1) (6363 + 42 + 8 * s + p) = pF z (oS o0 o1 s) (uS o0 o1 s) s p := q 2 (by omega)
    rw [q0, q1, q2, W _ (by omega), W _ (by omega), W _ (by omega)]
    exact ⟨B.1, fun _ => B.2⟩
  · have hgn : (z 6368 + 1).toNat - 1 - ago = g - ago := by rw [hg]; omega
    have hm : (g - ago) % 60 < 60 := Nat.mod_lt _ (by decide)
    rw [hgn, W _ (by omega), show 6363 + 70 + 5 * ago + q = 6363 + (70 + (5 * ago + q)) by omega, H _ (by omega), tenF_tl _ _ _ (by omega)]
    by_cases c : ago = 0
    · subst c
      have := b3 q hq
      rw [Nat.sub_zero, show 70 + (5 * 0 + q) = 70 + q by omega]
      exact this
    · have hlt : ago ≤ g := by rw [hg] at hl; omega
      rw [b4 q hq _ hm (by omega), ← v1 _ (by omega)]
      have := d2 (ago - 1) (by omega) (by show ((ago - 1 : Nat) : Int) < z 6368; rw [hg]; omega) q hq
      have e68 : (z (6363 + 5)).toNat - 1 - (ago - 1) = g - ago := by
        have : z (6363 + 5) = g := hg
        rw [this]; omega
      rw [e68] at this
      rw [this]
      unfold tlF
      rw [if_neg (by omega), if_neg (by omega), if_neg (by omega), if_neg (by omega), if_neg (by omega)]; congr 1; omega
