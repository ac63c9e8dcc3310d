/-! a tenth, as a function of the rows of now and of the match -/
def oS (o0 o1 : Int) (s : Nat) : Int := if s = 0 then o0 else o1
def cnt (z : hm) (s : Nat) : Nat := (z (6091 + s)).toNat
def eE (z : hm) (s : Nat) : Nat := if z 6366 = 0 then s else 1 - s
def uS (o0 o1 : Int) (s : Nat) : Int := if oS o0 o1 (1 - s) = 1 then 1 else 0
def frc (z : hm) (o0 o1 : Int) (s : Nat) : Int := (sumF z (oS o0 o1 s) (uS o0 o1 s) s (cnt z s) * z (6363 + eE z s)).tdiv 100
def gvF (z : hm) (o0 o1 : Int) : Int × Int := fgv z o1 (z 6368) 1 (fgv z o0 (z 6368) 0 (z 6370, z 6371) (cnt z 0)) (cnt z 1)
def thF (z : hm) (o0 o1 : Int) : Int := z 6367 + clamp3 ((frc z o0 o1 0 - frc z o0 o1 1).tdiv 100)
def hdF (z : hm) (o0 o1 : Int) (k : Nat) : Int := if k < 2 then f_wear (z (6363 + k)) (z 6097) (oS o0 o1 (eE z k)) else if k = 4 then thF z o0 o1 else if k = 5 then z 6368 + 1 else if k = 6 then wonF (thF z o0 o1) (z 6098) else if k = 7 then (gvF z o0 o1).1 else if k = 8 then (gvF z o0 o1).2 else if k = 9 then (if z 6372 < 60 then z 6372 + 1 else z 6372) else z (6363 + k)
def mdF (z : hm) (o0 o1 : Int) (i s p : Nat) : Int := if p < cnt z s then (if i = 0 then pL z (oS o0 o1 s) s p else if i = 1 then pK z (oS o0 o1 s) s p else pF z (oS o0 o1 s) (uS o0 o1 s) s p) else z (6363 + (10 + 16 * i + 8 * s + p))
def tdF (z : hm) (o0 o1 : Int) (k : Nat) : Int := if k = 58 then o0 else if k = 59 then o1 else z (6363 + (k - 2))
def tlF (z : hm) (o0 o1 : Int) (k : Nat) : Int := if k = 70 then o0 else if k = 71 then o1 else if k = 72 then frc z o0 o1 0 else if k = 73 then frc z o0 o1 1 else if k = 74 then thF z o0 o1 else z (6363 + (k - 5))
def tenF (z : hm) (o0 o1 : Int) (k : Nat) : Int := if k < 10 then hdF z o0 o1 k else if k < 58 then mdF z o0 o1 ((k - 10) / 16) ((k - 10) % 16 / 8) ((k - 10) % 8) else if k < 70 then tdF z o0 o1 k else tlF z o0 o1 k
def tenH (z : hm) (o0 o1 : Int) : hm := fun a => if 6363 ≤ a ∧ a < 6733 then tenF z o0 o1 (a - 6363) else z a
theorem tenF_hd (z : hm) (o0 o1 : Int) {k : Nat} (h : k < 10) : tenF z o0 o1 k = hdF z o0 o1 k := if_pos h
theorem tenF_md (z : hm) (o0 o1 : Int) {i s p : Nat} (hi : i < 3) (hs : s < 2) (hp : p < 8) : tenF z o0 o1 (10 + 16 * i + 8 * s + p) = mdF z o0 o1 i s p := by
  unfold tenF
  rw [if_neg (by omega), if_pos (by omega), show (10 + 16 * i + 8 * s + p - 10) / 16 = i by omega, show (10 + 16 * i + 8 * s + p - 10) % 16 / 8 = s by omega, show (10 + 16 * i + 8 * s + p - 10) % 8 = p by omega]
theorem tenF_td (z : hm) (o0 o1 : Int) {k : Nat} (h1 : 58 ≤ k) (h2 : k < 70) : tenF z o0 o1 k = tdF z o0 o1 k := by
  unfold tenF
  rw [if_neg (by omega), if_neg (by omega), if_pos (by omega)]
theorem tenF_tl (z : hm) (o0 o1 : Int) {k : Nat} (h1 : 70 ≤ k) : tenF z o0 o1 k = tlF z o0 o1 k := by
  unfold tenF
  rw [if_neg (by omega), if_neg (by omega), if_neg (by omega)]
theorem tenH_now (z : hm) (o0 o1 : Int) {k : Nat} (h : k < 370) : tenH z o0 o1 (6363 + k) = tenF z o0 o1 k := by
  unfold tenH
  rw [if_pos (by omega), show 6363 + k - 6363 = k by omega]
theorem tenH_ne (z : hm) (o0 o1 : Int) {a : Nat} (h : ¬ (6363 ≤ a ∧ a < 6733)) : tenH z o0 o1 a = z a := if_neg h
theorem oS_b {o0 o1 : Int} (h0 : 0 ≤ o0 ∧ o0 ≤ 3) (h1 : 0 ≤ o1 ∧ o1 ≤ 3) (s : Nat) : 0 ≤ oS o0 o1 s ∧ oS o0 o1 s ≤ 3 := by
  unfold oS; split <;> assumption
/-! the same rows give the same tenth -/
def eqN (y z : hm) : Prop := (∀ k, k < 136 → y (6091 + k) = z (6091 + k)) ∧ ∀ k, k < 370 → y (6363 + k) = z (6363 + k)
theorem eqN.now {y z : hm} (h : eqN y z) {a : Nat} (h1 : 6363 ≤ a) (h2 : a < 6733) : y a = z a := by
  have := h.2 (a - 6363) (by omega)
  rw [show 6363 + (a - 6363) = a by omega] at this
  exact this
theorem eqN.mat {y z : hm} (h : eqN y z) {a : Nat} (h1 : 6091 ≤ a) (h2 : a < 6227) : y a = z a := by
  have := h.1 (a - 6091) (by omega)
  rw [show 6091 + (a - 6091) = a by omega] at this
  exact this
theorem eqN.symm {y z : hm} (h : eqN y z) : eqN z y := ⟨fun k hk => (h.1 k hk).symm, fun k hk => (h.2 k hk).symm⟩
theorem eqN.trans {x y z : hm} (h : eqN x y) (g : eqN y z) : eqN x z := ⟨fun k hk => (h.1 k hk).trans (g.1 k hk), fun k hk => (h.2 k hk).trans (g.2 k hk)⟩
theorem eqN.OM {y z : hm} (h : eqN y z) (hO : OM 6091 z) : OM 6091 y := OM_move h.1 hO
theorem eqN.OT {y z : hm} (h : eqN y z) {N : Int} (hO : OT 6091 6363 N z) : OT 6091 6363 N y := OT_move (Int.le_refl _) h.1 h.2 hO
theorem sumB_c {y z : hm} (h : eqN y z) {s : Nat} (hs : s < 2) : ∀ p, p ≤ 8 → sumB y s p = sumB z s p
  | 0, _ => rfl
  | p + 1, hp => by
    show sumB y s p + y (6363 + (10 + 8 * s + p)) = sumB z s p + z (6363 + (10 + 8 * s + p))
    rw [sumB_c h hs p (by omega), h.2 _ (by omega)]
theorem cnt_c {y z : hm} (h : eqN y z) {s : Nat} (hs : s < 2) : cnt y s = cnt z s := by
  unfold cnt; rw [h.1 s (by omega)]
theorem cnt_b {z : hm} (hO : OM 6091 z) {s : Nat} (hs : s < 2) : (1 ≤ cnt z s ∧ cnt z s ≤ 8) ∧ z (6091 + s) = cnt z s := by
  have := (hO.1 s hs).1
  unfold cnt; omega
theorem mean_c {y z : hm} (h : eqN y z) (hO : OM 6091 z) {s : Nat} (hs : s < 2) : mean y s = mean z s := by
  have := (hO.1 s hs).1
  unfold mean
  rw [h.1 s (by omega), sumB_c h hs _ (by omega)]
theorem felt_c {y z : hm} (h : eqN y z) (hO : OM 6091 z) {s : Nat} (hs : s < 2) (w : Int) : felt y s w = felt z s w := by
  unfold felt
  rw [mean_c h hO hs, mean_c h hO (show 1 - s < 2 by omega), h.now (a := 6367) (by omega) (by omega), h.now (a := 6368) (by omega) (by omega)]
theorem rl_c {y z : hm} (h : eqN y z) (hO : OM 6091 z) {s : Nat} (hs : s < 2) : ∀ m k, m + k ≤ 6 → rl y s m k = rl z s m k
  | 0, _, _ => rfl
  | m + 1, k, hk => by
    have r : ∀ j, j < 4 → ruc y s k j = ruc z s k j := fun j hj => h.1 _ (by omega)
    rw [rl_s, rl_s, r 0 (by omega), r 1 (by omega), r 2 (by omega), r 3 (by omega), felt_c h hO hs, rl_c h hO hs m (k + 1) (by omega)]
theorem ruleF_c {y z : hm} (h : eqN y z) (hO : OM 6091 z) {s : Nat} (hs : s < 2) : ruleF y s = ruleF z s := by
  have := (hO.1 s hs).1
  unfold ruleF
  rw [h.1 (2 + s) (by omega), rl_c h hO hs _ _ (by rw [show 6091 + (2 + s) = 6091 + 2 + s by omega]; omega)]
theorem tw_c {y z : hm} (h : eqN y z) {s p k : Nat} (hs : s < 2) (hp : p < 8) (hk : k < 5) : tw y s p k = tw z s p k := h.1 _ (by omega)
theorem pV_c {y z : hm} (h : eqN y z) {s p : Nat} (hs : s < 2) (hp : p < 8) : pV y s p = pV z s p := h.2 _ (by omega)
theorem pD_c {y z : hm} (h : eqN y z) (hO : OM 6091 z) {s p : Nat} (hs : s < 2) (hp : p < cnt z s) (o : Int) : pD y o s p = pD z o s p := by
  have cb := cnt_b hO hs
  have tr := ((hO.1 s hs).2.1 p (by omega) (by omega)).2.2.2.2
  have e4 : tw z s p 4 = z (6091 + 8 + 40 * s + 5 * p + 4) := by unfold tw; congr 1; omega
  rw [← e4] at tr
  unfold pD
  rw [tw_c h hs (show p < 8 by omega) (show 4 < 5 by omega)]
  unfold ordz
  split
  · rfl
  · exact h.2 _ (by omega)
theorem pK_c {y z : hm} (h : eqN y z) (hO : OM 6091 z) {s p : Nat} (hs : s < 2) (hp : p < cnt z s) (o : Int) : pK y o s p = pK z o s p := by
  have cb := cnt_b hO hs
  unfold pK
  rw [pV_c h hs (show p < 8 by omega), pD_c h hO hs hp]
theorem pL_c {y z : hm} (h : eqN y z) (hO : OM 6091 z) {s p : Nat} (hs : s < 2) (hp : p < cnt z s) (o : Int) : pL y o s p = pL z o s p := by
  have cb := cnt_b hO hs
  unfold pL
  rw [pV_c h hs (show p < 8 by omega), pD_c h hO hs hp, tw_c h hs (show p < 8 by omega) (show 3 < 5 by omega)]
theorem pF_c {y z : hm} (h : eqN y z) (hO : OM 6091 z) {s p : Nat} (hs : s < 2) (hp : p < cnt z s) (o u : Int) : pF y o u s p = pF z o u s p := by
  have cb := cnt_b hO hs
  unfold pF
  rw [tw_c h hs (show p < 8 by omega) (show 1 < 5 by omega), tw_c h hs (show p < 8 by omega) (show 2 < 5 by omega), pK_c h hO hs hp]
theorem sumF_c {y z : hm} (h : eqN y z) (hO : OM 6091 z) {s : Nat} (hs : s < 2) (o u : Int) : ∀ p, p ≤ cnt z s → sumF y o u s p = sumF z o u s p
  | 0, _ => rfl
  | p + 1, hp => by
    show sumF y o u s p + pF y o u s p = sumF z o u s p + pF z o u s p
    rw [sumF_c h hO hs o u p (by omega), pF_c h hO hs (by omega)]
theorem fgv_c {y z : hm} (h : eqN y z) (hO : OM 6091 z) {s : Nat} (hs : s < 2) (o g : Int) (G : Int × Int) : ∀ p, p ≤ cnt z s → fgv y o g s G p = fgv z o g s G p
  | 0, _ => rfl
  | p + 1, hp => by
    show (if pK y o s p = 4 ∧ (fgv y o g s G p).1 < 0 then _ else fgv y o g s G p) = (if pK z o s p = 4 ∧ (fgv z o g s G p).1 < 0 then _ else fgv z o g s G p)
    rw [fgv_c h hO hs o g G p (by omega), pK_c h hO hs (by omega)]
theorem eE_c {y z : hm} (h : eqN y z) (s : Nat) : eE y s = eE z s := by
  unfold eE
  rw [h.now (a := 6366) (by omega) (by omega)]
theorem eE_b (z : hm) {s : Nat} (hs : s < 2) : eE z s < 2 := by
  unfold eE; split <;> omega
theorem frc_c {y z : hm} (h : eqN y z) (hO : OM 6091 z) {s : Nat} (hs : s < 2) (o0 o1 : Int) : frc y o0 o1 s = frc z o0 o1 s := by
  have := eE_b z hs
  unfold frc
  rw [cnt_c h hs, sumF_c h hO hs _ _ _ (Nat.le_refl _), eE_c h, h.2 (eE z s) (by omega)]
theorem gvF_c {y z : hm} (h : eqN y z) (hO : OM 6091 z) (o0 o1 : Int) : gvF y o0 o1 = gvF z o0 o1 := by
  unfold gvF
  rw [cnt_c h (show 0 < 2 by omega), cnt_c h (show 1 < 2 by omega), h.now (a := 6368) (by omega) (by omega), h.now (a := 6370) (by omega) (by omega), h.now (a := 6371) (by omega) (by omega), fgv_c h hO (show 0 < 2 by omega) _ _ _ _ (Nat.le_refl _), fgv_c h hO (show 1 < 2 by omega) _ _ _ _ (Nat.le_refl _)]
theorem thF_c {y z : hm} (h : eqN y z) (hO : OM 6091 z) (o0 o1 : Int) : thF y o0 o1 = thF z o0 o1 := by
  unfold thF
  rw [frc_c h hO (show 0 < 2 by omega), frc_c h hO (show 1 < 2 by omega), h.now (a := 6367) (by omega) (by omega)]
theorem tenF_c {y z : hm} (h : eqN y z) (hO : OM 6091 z) (o0 o1 : Int) {k : Nat} (hk : k < 370) : tenF y o0 o1 k = tenF z o0 o1 k := by
  unfold tenF
  by_cases c1 : k < 10
  · rw [if_pos c1, if_pos c1]
    unfold hdF
    rw [h.2 k hk, h.mat (a := 6097) (by omega) (by omega), eE_c h, thF_c h hO, h.now (a := 6368) (by omega) (by omega), h.mat (a := 6098) (by omega) (by omega), gvF_c h hO, h.now (a := 6372) (by omega) (by omega)]
  · rw [if_neg c1, if_neg c1]
    by_cases c2 : k < 58
    · rw [if_pos c2, if_pos c2]
      have hs : (k - 10) % 16 / 8 < 2 := by omega
      generalize hS : (k - 10) % 16 / 8 = s at hs ⊢
      generalize hP : (k - 10) % 8 = p
      generalize hI : (k - 10) / 16 = i
      unfold mdF
      rw [cnt_c h hs, h.2 (10 + 16 * i + 8 * s + p) (by omega)]
      by_cases c3 : p < cnt z s
      · rw [if_pos c3, if_pos c3, pL_c h hO hs c3, pK_c h hO hs c3, pF_c h hO hs c3]
      · rw [if_neg c3, if_neg c3]
    · rw [if_neg c2, if_neg c2]
      unfold tdF tlF
      rw [h.2 (k - 2) (by omega), h.2 (k - 5) (by omega), frc_c h hO (show 0 < 2 by omega), frc_c h hO (show 1 < 2 by omega), thF_c h hO]
theorem tenH_c {y z : hm} (h : eqN y z) (hO : OM 6091 z) (o0 o1 : Int) : eqN (tenH y o0 o1) (tenH z o0 o1) :=
  ⟨fun k hk => by rw [tenH_ne _ _ _ (by omega), tenH_ne _ _ _ (by omega)]; exact h.1 k hk, fun k hk => by rw [tenH_now _ _ _ hk, tenH_now _ _ _ hk, tenF_c h hO o0 o1 hk]⟩
