/-! several tenths, as a function of the rows -/
def goF (ch : Nat → hm → Int × Int) : Nat → Nat → hm → Nat × hm
  | 0, _, z => (0, z)
  | n + 1, k, z => if z 6369 < 0 then ((goF ch n (k + 1) (tenH z (ch k z).1 (ch k z).2)).1 + 1, (goF ch n (k + 1) (tenH z (ch k z).1 (ch k z).2)).2) else (0, z)
theorem goF_on (ch : Nat → hm → Int × Int) {n k : Nat} {z : hm} (h : z 6369 < 0) : goF ch (n + 1) k z = ((goF ch n (k + 1) (tenH z (ch k z).1 (ch k z).2)).1 + 1, (goF ch n (k + 1) (tenH z (ch k z).1 (ch k z).2)).2) := if_pos h
theorem goF_off (ch : Nat → hm → Int × Int) {n k : Nat} {z : hm} (h : ¬ z 6369 < 0) : goF ch n k z = (0, z) := by
  cases n with
  | zero => rfl
  | succ n => exact if_neg h
def chR : Nat → hm → Int × Int := fun _ z => (ruleF z 0, ruleF z 1)
def chT (f : Nat → Int) : Nat → hm → Int × Int := fun k _ => (f (2 * k), f (2 * k + 1))
theorem rl_b {z : hm} (hO : OM 6091 z) {s : Nat} (hs : s < 2) : ∀ m k : Nat, (m + k : Int) ≤ z (6091 + (2 + s)) → 0 ≤ rl z s m k ∧ rl z s m k ≤ 3
  | 0, _, _ => by show (0 : Int) ≤ 0 ∧ (0 : Int) ≤ 3; omega
  | m + 1, k, hk => by
    have g := hO.1 s hs
    have e93 : z (6091 + 2 + s) = z (6091 + (2 + s)) := by rw [Nat.add_assoc]
    rw [rl_s]
    split
    · have := (g.2.2 k (by omega) (by omega)).2.2.2
      unfold ruc
      rw [show 6091 + (88 + 24 * s + 4 * k + 3) = 6091 + 88 + 24 * s + 4 * k + 3 by omega]
      exact this
    · exact rl_b hO hs m (k + 1) (by omega)
theorem ruleF_b {z : hm} (hO : OM 6091 z) {s : Nat} (hs : s < 2) : 0 ≤ ruleF z s ∧ ruleF z s ≤ 3 := by
  have g := (hO.1 s hs).1
  have e93 : z (6091 + 2 + s) = z (6091 + (2 + s)) := by rw [Nat.add_assoc]
  unfold ruleF
  exact rl_b hO hs (z (6091 + (2 + s))).toNat 0 (by omega)
theorem eqN_ten {y z zp : hm} (hE : eqN z zp) (hO : OM 6091 zp) {o0 o1 : Int} (h1 : ∀ k, k < 136 → y (6091 + k) = z (6091 + k)) (h2 : ∀ k, k < 370 → y (6363 + k) = tenF z o0 o1 k) : eqN y (tenH zp o0 o1) :=
  ⟨fun k hk => by rw [tenH_ne _ _ _ (by omega), h1 k hk]; exact hE.1 k hk, fun k hk => by rw [tenH_now _ _ _ hk, h2 k hk]; exact tenF_c hE hO o0 o1 hk⟩
theorem OT_le {N N' : Int} {z : hm} (h : N ≤ N') (hT : OT 6091 6363 N z) : OT 6091 6363 N' z := OT_move h (fun _ _ => rfl) (fun _ _ => rfl) hT
theorem okV_le {t : Nat} {N N' : Int} {x z : hm} (h : N ≤ N') (hV : okV t N x z) : okV t N' x z := ⟨hV.1, hV.2.1, OT_le h hV.2.2.1, hV.2.2.2⟩
theorem tenH_on {z : hm} (o0 o1 : Int) (hb : z 6365 = 1) : tenH z o0 o1 6365 = 1 := by
  have e : tenH z o0 o1 (6363 + 2) = tenF z o0 o1 2 := tenH_now z o0 o1 (by omega)
  rw [tenF_hd _ _ _ (by omega)] at e
  rw [show tenH z o0 o1 6365 = hdF z o0 o1 2 from e]
  exact hb
theorem tenH_OM {z : hm} (o0 o1 : Int) (hO : OM 6091 z) : OM 6091 (tenH z o0 o1) := OM_move (fun k hk => tenH_ne _ _ _ (by omega)) hO
