/-! a tenth keeps the bounds -/
theorem clamp3_b (d : Int) : -3 ≤ clamp3 d ∧ clamp3 d ≤ 3 := by unfold clamp3; (repeat' split) <;> omega
theorem fgv_b {z : hm} {o g : Int} {s : Nat} (hs : s < 2) {G : Int × Int} (hG : -1 ≤ G.1 ∧ G.1 ≤ 15) : ∀ p, p ≤ 8 → -1 ≤ (fgv z o g s G p).1 ∧ (fgv z o g s G p).1 ≤ 15
  | 0, _ => hG
  | p + 1, hp => by
    have := fgv_b (z := z) (o := o) (g := g) hs hG p (by omega)
    show -1 ≤ (if pK z o s p = 4 ∧ (fgv z o g s G p).1 < 0 then (8 * (s : Int) + p, g) else fgv z o g s G p).1 ∧ (if pK z o s p = 4 ∧ (fgv z o g s G p).1 < 0 then (8 * (s : Int) + p, g) else fgv z o g s G p).1 ≤ 15
    split
    · show -1 ≤ 8 * (s : Int) + p ∧ 8 * (s : Int) + p ≤ 15; omega
    · exact this
theorem pL_b {N : Int} {z : hm} (hO : OM 6091 z) (hT : OT 6091 6363 N z) (hb : z 6365 = 1) {o : Int} (ho : 0 ≤ o ∧ o ≤ 3) {s p : Nat} (hs : s < 2) (hp : p < cnt z s) : (0 ≤ pL z o s p ∧ pL z o s p ≤ 60) ∧ (0 ≤ pK z o s p ∧ pK z o s p ≤ 4) ∧ ∀ u, 0 ≤ pF z o u s p ∧ pF z o u s p ≤ 400 := by
  have cb := cnt_b hO hs
  obtain ⟨q1, q2, q4, qv, qd⟩ := okP2_of hO hT hb ho hs p hp
  have t3 := ((hO.1 s hs).2.1 p (by omega) (by omega)).2.2.2.1
  have e3 : tw z s p 3 = z (6091 + 8 + 40 * s + 5 * p + 3) := by unfold tw; congr 1; omega
  rw [← e3] at t3
  have tk := f_takes_b (pD z o s p)
  refine ⟨?_, ?_, fun u => f_force_b q1 q2 _ _⟩
  · unfold pL f_left
    split <;> omega
  · unfold pK f_did
    split <;> omega
theorem OT_ten {N : Int} {z : hm} (hO : OM 6091 z) (hT : OT 6091 6363 N z) (hb : z 6365 = 1) (hw : z 6369 < 0) {o0 o1 : Int} (h0 : 0 ≤ o0 ∧ o0 ≤ 3) (h1 : 0 ≤ o1 ∧ o1 ≤ 3) : OT 6091 6363 (N + 1) (tenH z o0 o1) := by
  have hg := OT.grip hO hT
  have c0b := cnt_b hO (show 0 < 2 by omega)
  have c1b := cnt_b hO (show 1 < 2 by omega)
  obtain ⟨⟨bch, bth, bgo, bwo, bga, bke, bwt⟩, r1, r2, r3⟩ := hT.2.2.1 hb
  have bch : z 6366 = 0 ∨ z 6366 = 1 := bch
  have bth : -102 ≤ z 6367 ∧ z 6367 ≤ 102 := bth
  have bgo : 0 ≤ z 6368 ∧ z 6368 ≤ N := bgo
  have bwo : -1 ≤ z 6369 ∧ z 6369 ≤ 1 := bwo
  have bga : -1 ≤ z 6370 ∧ z 6370 ≤ 15 := bga
  have bke : z 6372 = min (z 6368) 60 := bke
  have bwt : z 6369 = -1 → - z 6098 < z 6367 ∧ z 6367 < z 6098 := bwt
  have bwt := bwt (by omega)
  have bfar : 1 ≤ z 6098 ∧ z 6098 ≤ 99 := hO.2.2.2
  have bwe : 0 ≤ z 6097 ∧ z 6097 ≤ 20 := hO.2.2.1
  have H : ∀ k, k < 370 → tenH z o0 o1 (6363 + k) = tenF z o0 o1 k := fun k hk => tenH_now z o0 o1 hk
  have M : ∀ a, a < 6363 → tenH z o0 o1 a = z a := fun a ha => tenH_ne z o0 o1 (by omega)
  have e0 : ∀ k, k < 10 → tenH z o0 o1 (6363 + k) = hdF z o0 o1 k := fun k hk => by rw [H k (by omega), tenF_hd _ _ _ hk]
  have e2 : tenH z o0 o1 (6363 + 2) = z 6365 := e0 2 (by omega)
  have e3 : tenH z o0 o1 (6363 + 3) = z 6366 := e0 3 (by omega)
  have e4 : tenH z o0 o1 (6363 + 4) = thF z o0 o1 := e0 4 (by omega)
  have e5 : tenH z o0 o1 (6363 + 5) = z 6368 + 1 := e0 5 (by omega)
  have e6 : tenH z o0 o1 (6363 + 6) = wonF (thF z o0 o1) (z 6098) := e0 6 (by omega)
  have e7 : tenH z o0 o1 (6363 + 7) = (gvF z o0 o1).1 := e0 7 (by omega)
  have e9 : tenH z o0 o1 (6363 + 9) = (if z 6372 < 60 then z 6372 + 1 else z 6372) := e0 9 (by omega)
  have m7 : tenH z o0 o1 (6091 + 7) = z 6098 := M _ (by omega)
  have cl := clamp3_b ((frc z o0 o1 0 - frc z o0 o1 1).tdiv 100)
  have th : thF z o0 o1 = z 6367 + clamp3 ((frc z o0 o1 0 - frc z o0 o1 1).tdiv 100) := rfl
  have gr : ∀ e, e < 2 → 1 ≤ tenH z o0 o1 (6363 + e) ∧ tenH z o0 o1 (6363 + e) ≤ 100 := fun e he => by
    have := hg e he
    rw [e0 e (by omega)]; unfold hdF; rw [if_pos he]; unfold f_wear; split <;> omega
  unfold OT
  rw [e2, e3, e4, e5, e6, e7, e9, m7]
  refine ⟨Or.inr hb, fun c => absurd (hb ▸ c) (by decide), fun _ => ⟨⟨bch, by omega, by omega, ?_, ?_, ?_, ?_⟩, fun s hs p hp hl => ?_, fun j hj s hs => ?_, fun ago ha hl s hs => ?_⟩, fun _ => ⟨gr 0 (by omega), gr 1 (by omega)⟩⟩
  · unfold wonF; (repeat' split) <;> omega
  · exact fgv_b (by omega) (fgv_b (by omega) bga _ c0b.1.2) _ c1b.1.2
  · rw [bke]; split <;> omega
  · unfold wonF; (repeat' split) <;> omega
  · rw [M _ (by omega)] at hl
    have cb := cnt_b hO hs
    have pc : p < cnt z s := by omega
    have b := pL_b hO hT hb (oS_b h0 h1 s) hs pc
    have q : ∀ i, i < 3 → tenH z o0 o1 (6363 + 10 + 16 * i + 8 * s + p) = (if i = 0 then pL z (oS o0 o1 s) s p else if i = 1 then pK z (oS o0 o1 s) s p else pF z (oS o0 o1 s) (uS o0 o1 s) s p) := fun i hi => by
      rw [show 6363 + 10 + 16 * i + 8 * s + p = 6363 + (10 + 16 * i + 8 * s + p) by omega, H _ (by omega), tenF_md _ _ _ hi hs hp]
      unfold mdF
      rw [if_pos pc]
    have q0 : tenH z o0 o1 (6363 + 10 + 8 * s + p) = pL z (oS o0 o1 s) s p := q 0 (by omega)
    have q1 : tenH z o0 o1 (6363 + 26 + 8 * s + p) = pK z (oS o0 o1 s) s p := q 1 (by omega)
    have q2 : tenH z o0 o1 (6363 + 42 + 8 * s + p) = pF z (oS o0 o1 s) (uS o0 o1 s) s p := q 2 (by omega)
    rw [q0, q1, q2]
    exact ⟨b.1, fun c => absurd bgo.1 (by omega), fun _ => ⟨b.2.1, b.2.2 _⟩⟩
  · rw [show 6363 + 58 + 2 * j + s = 6363 + (58 + (2 * j + s)) by omega, show 6363 + 70 + 5 * j + s = 6363 + (70 + (5 * j + s)) by omega, H _ (by omega), H _ (by omega), tenF_td _ _ _ (by omega) (by omega), tenF_tl _ _ _ (by omega)]
    by_cases c : j = 0
    · subst c
      rw [if_pos (by omega)]
      rcases (show s = 0 ∨ s = 1 by omega) with rfl | rfl <;> rfl
    · have h2 := r2 (j - 1) (by omega) s hs
      have a1 : tdF z o0 o1 (58 + (2 * j + s)) = z (6363 + 58 + 2 * (j - 1) + s) := by
        unfold tdF
        rw [if_neg (by omega), if_neg (by omega)]; congr 1; omega
      have a2 : tlF z o0 o1 (70 + (5 * j + s)) = z (6363 + 70 + 5 * (j - 1) + s) := by
        unfold tlF
        rw [if_neg (by omega), if_neg (by omega), if_neg (by omega), if_neg (by omega), if_neg (by omega)]; congr 1; omega
      rw [a1, a2, h2]
      have e68 : z (6363 + 5) = z 6368 := rfl
      rw [e68]
      by_cases c2 : (j : Int) < z 6368 + 1
      · rw [if_pos c2, if_pos (by omega)]
      · rw [if_neg c2, if_neg (by omega)]
  · rw [show 6363 + 70 + 5 * ago + s = 6363 + (70 + (5 * ago + s)) by omega, H _ (by omega), tenF_tl _ _ _ (by omega)]
    by_cases c : ago = 0
    · subst c
      rcases (show s = 0 ∨ s = 1 by omega) with rfl | rfl
      · exact h0
      · exact h1
    · have a2 : tlF z o0 o1 (70 + (5 * ago + s)) = z (6363 + 70 + 5 * (ago - 1) + s) := by
        unfold tlF
        rw [if_neg (by omega), if_neg (by omega), if_neg (by omega), if_neg (by omega), if_neg (by omega)]; congr 1; omega
      rw [a2]
      exact r3 (ago - 1) (by omega) (by show ((ago - 1 : Nat) : Int) < z 6368; omega) s hs
