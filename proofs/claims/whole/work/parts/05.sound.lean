section HS
variable {σ : Type} {p : Program} {l : Launch} {e : Env} {R : Room} {s : State} {m : MethodId} {args : Array Value} {below : List Frame} {meth : Method} {c : Code} {Q : State → Prop} {nL : Nat} {ρ : Nat → Nat} {Pic : σ → Heap → List Loc → Nat → Nat → Prop} {cc : ByteArray} {pc : Nat} {K Kt Kf : hv_K σ}
theorem hi_add (a b : Int) : Int32.ofInt a + Int32.ofInt b = Int32.ofInt (a + b) := (Int32.ofInt_add a b).symm
theorem hi_sub (a b : Int) : Int32.ofInt a - Int32.ofInt b = Int32.ofInt (a - b) := (Int32.ofInt_sub a b).symm
theorem hi_mul (a b : Int) : Int32.ofInt a * Int32.ofInt b = Int32.ofInt (a * b) := (Int32.ofInt_mul a b).symm
theorem hi_neg (a : Int) : -Int32.ofInt a = Int32.ofInt (-a) := (Int32.ofInt_neg a).symm
theorem hi_self (x : Int32) : Int32.ofInt x.toInt = x := Int32.ofInt_toInt x
theorem hi_toInt {a : Int} (h : hv_I a) : (Int32.ofInt a).toInt = a := Int32.toInt_ofInt_of_le (by have := h.1; omega) (by have := h.2; omega)
theorem hi_ok (x : Int32) : hv_I x.toInt := ⟨by have := Int32.le_toInt x; omega, by have := Int32.toInt_lt x; omega⟩
theorem hj_ok (x : Int64) : hv_J x.toInt := ⟨by have := Int64.le_toInt x; omega, by have := Int64.toInt_lt x; omega⟩
theorem hj_self (x : Int64) : Int64.ofInt x.toInt = x := Int64.ofInt_toInt x
theorem hj_toInt {a : Int} (h : hv_J a) : (Int64.ofInt a).toInt = a := Int64.toInt_ofInt_of_le (by have := h.1; omega) (by have := h.2; omega)
theorem hi_eq {a b : Int} (ha : hv_I a) (hb : hv_I b) : Int32.ofInt a = Int32.ofInt b ↔ a = b := by
  rw [← Int32.toInt_inj, hi_toInt ha, hi_toInt hb]
theorem hi_lt {a b : Int} (ha : hv_I a) (hb : hv_I b) : Int32.ofInt a < Int32.ofInt b ↔ a < b := by
  rw [Int32.lt_iff_toInt_lt, hi_toInt ha, hi_toInt hb]
theorem hi_le {a b : Int} (ha : hv_I a) (hb : hv_I b) : Int32.ofInt a ≤ Int32.ofInt b ↔ a ≤ b := by
  rw [Int32.le_iff_toInt_le, hi_toInt ha, hi_toInt hb]
theorem hi_0 : hv_I 0 := by decide
theorem hi_z : (0 : Int32) = Int32.ofInt 0 := by decide
theorem hi_ne0 {a : Int} (ha : hv_I a) (h : a ≠ 0) : ¬ Int32.ofInt a = 0 := by
  rw [hi_z, hi_eq ha hi_0]
  exact h
theorem hi_div {a b : Int} (ha : hv_I a) (hb : hv_I b) (h : b ≠ -1) : Int32.ofInt a / Int32.ofInt b = Int32.ofInt (a.tdiv b) := by
  rw [← Int32.toInt_inj, Int32.toInt_div_of_ne_right _ _ (by rw [show (-1 : Int32) = Int32.ofInt (-1) by decide]; rw [Ne, hi_eq hb (by decide)]; exact h), hi_toInt ha, hi_toInt hb]
  have h1 : (a.tdiv b).natAbs ≤ a.natAbs := by rw [Int.natAbs_tdiv]; exact Nat.div_le_self _ _
  by_cases hm : a = -2147483648
  · by_cases h2 : b = 1
    · subst h2; rw [Int.tdiv_one, hi_toInt ha]
    · by_cases h0 : b = 0
      · subst h0; rw [Int.tdiv_zero, hi_toInt hi_0]
      · have h3 : (a.tdiv b).natAbs ≤ a.natAbs / 2 := by
          rw [Int.natAbs_tdiv]
          exact Nat.div_le_div_left (by omega) (by decide)
        rw [hi_toInt ⟨by omega, by omega⟩]
  · rw [hi_toInt ⟨by have := ha.1; have := ha.2; omega, by have := ha.1; have := ha.2; omega⟩]
theorem hi_divok {a b : Int} (ha : hv_I a) (h : b ≠ -1) : hv_I (a.tdiv b) := by
  have h1 : (a.tdiv b).natAbs ≤ a.natAbs := by rw [Int.natAbs_tdiv]; exact Nat.div_le_self _ _
  by_cases hm : a = -2147483648
  · by_cases h2 : b = 1
    · subst h2; rw [Int.tdiv_one]; exact ha
    · by_cases h0 : b = 0
      · subst h0; rw [Int.tdiv_zero]; exact hi_0
      · have h3 : (a.tdiv b).natAbs ≤ a.natAbs / 2 := by
          rw [Int.natAbs_tdiv]
          exact Nat.div_le_div_left (by omega) (by decide)
        exact ⟨by omega, by omega⟩
  · exact ⟨by have := ha.1; have := ha.2; omega, by have := ha.1; have := ha.2; omega⟩
theorem hi_rem {a b : Int} (ha : hv_I a) (hb : hv_I b) (h : b ≠ -1) : Int32.ofInt a - Int32.ofInt a / Int32.ofInt b * Int32.ofInt b = Int32.ofInt (a.tmod b) := by
  rw [hi_div ha hb h, hi_mul, hi_sub]
  congr 1
  have := Int.tmod_add_mul_tdiv a b
  rw [Int.mul_comm] at this
  omega
theorem hi_remok {a b : Int} (ha : hv_I a) : hv_I (a.tmod b) := by
  have h1 : (a.tmod b).natAbs ≤ a.natAbs := by
    rw [Int.natAbs_tmod]
    exact Nat.mod_le _ _
  by_cases h : 0 ≤ a
  · have := Int.tmod_nonneg b h
    exact ⟨by omega, by have := ha.2; omega⟩
  · exact ⟨by have := ha.1; omega, by
      have h2 := Int.tmod_nonneg b (a := -a) (by omega)
      rw [Int.neg_tmod] at h2
      omega⟩
theorem hw_mask {pc : Nat} {mk : List Bool} {lo st} {x : σ} (h : hw_C p l e R s m args below meth c Q nL ρ Pic pc (hv_mask mk lo) st x) : hw_C p l e R s m args below meth c Q nL ρ Pic pc lo st x :=
  fun hst hlo H locs ce sl ls hP hl => h hst (hv_okl_mask hlo) H locs ce sl ls hP (hv_has_mask hl)
theorem hs_jump {mk : List Bool} (hK : hw_S p l e R s m args below meth c Q nL ρ Pic K pc) : hw_S p l e R s m args below meth c Q nL ρ Pic (hc_jump mk K) pc := fun lo st x h => hw_mask (hK _ _ _ h)
theorem hs_at : hw_S p l e R s m args below meth c Q nL ρ Pic (hw_C p l e R s m args below meth c Q nL ρ Pic pc) pc := fun lo st x h => h

theorem hs_iconst (hx : p.tables.exec = Jvm.exec) (hb : c.code = cc)  {n z : Int} (hd : decode cc pc = .ok (.iconst n, 1)) (hv : Int32.ofInt n = Int32.ofInt z) (hz : hv_I z) (hK : hw_S p l e R s m args below meth c Q nL ρ Pic (K) (pc + 1)) : hw_S p l e R s m args below meth c Q nL ρ Pic (hc_iconst z K) (pc) := by
  intro lo st x h
  unfold hc_iconst at h
  intro hst hlo H locs ce sl ls hP hl
  exact lv_iconst hx hb hd hv (hK _ _ _ h (hv_oks_cons.mpr ⟨hz, hst⟩) hlo H locs ce sl ls hP hl)
theorem hs_bipush (hx : p.tables.exec = Jvm.exec) (hb : c.code = cc)  {n z : Int} (hd : decode cc pc = .ok (.bipush n, 2)) (hv : (Int8.ofInt n).toInt32 = Int32.ofInt z) (hz : hv_I z) (hK : hw_S p l e R s m args below meth c Q nL ρ Pic (K) (pc + 2)) : hw_S p l e R s m args below meth c Q nL ρ Pic (hc_iconst z K) (pc) := by
  intro lo st x h
  unfold hc_iconst at h
  intro hst hlo H locs ce sl ls hP hl
  exact lv_bipush hx hb hd hv (hK _ _ _ h (hv_oks_cons.mpr ⟨hz, hst⟩) hlo H locs ce sl ls hP hl)
theorem hs_sipush (hx : p.tables.exec = Jvm.exec) (hb : c.code = cc)  {n z : Int} (hd : decode cc pc = .ok (.sipush n, 3)) (hv : (Int16.ofInt n).toInt32 = Int32.ofInt z) (hz : hv_I z) (hK : hw_S p l e R s m args below meth c Q nL ρ Pic (K) (pc + 3)) : hw_S p l e R s m args below meth c Q nL ρ Pic (hc_iconst z K) (pc) := by
  intro lo st x h
  unfold hc_iconst at h
  intro hst hlo H locs ce sl ls hP hl
  exact lv_sipush hx hb hd hv (hK _ _ _ h (hv_oks_cons.mpr ⟨hz, hst⟩) hlo H locs ce sl ls hP hl)
theorem hs_ldc (hx : p.tables.exec = Jvm.exec) (hb : c.code = cc)  {own : String} {index : Nat} {z : Int} (hown : s.vm.findClass own = some m.cls) (hc : (Jvm.Cond.constant own index (Int32.ofInt z)).before args s = true) (hd : decode cc pc = .ok (.ldc index, 2)) (hz : hv_I z) (hK : hw_S p l e R s m args below meth c Q nL ρ Pic (K) (pc + 2)) : hw_S p l e R s m args below meth c Q nL ρ Pic (hc_iconst z K) (pc) := by
  intro lo st x h
  unfold hc_iconst at h
  intro hst hlo H locs ce sl ls hP hl
  exact lv_ldc hx hb hown hc hd (hK _ _ _ h (hv_oks_cons.mpr ⟨hz, hst⟩) hlo H locs ce sl ls hP hl)
theorem hs_ldcw (hx : p.tables.exec = Jvm.exec) (hb : c.code = cc)  {own : String} {index : Nat} {z : Int} (hown : s.vm.findClass own = some m.cls) (hc : (Jvm.Cond.constant own index (Int32.ofInt z)).before args s = true) (hd : decode cc pc = .ok (.ldc_w index, 3)) (hz : hv_I z) (hK : hw_S p l e R s m args below meth c Q nL ρ Pic (K) (pc + 3)) : hw_S p l e R s m args below meth c Q nL ρ Pic (hc_iconst z K) (pc) := by
  intro lo st x h
  unfold hc_iconst at h
  intro hst hlo H locs ce sl ls hP hl
  exact lv_ldcw hx hb hown hc hd (hK _ _ _ h (hv_oks_cons.mpr ⟨hz, hst⟩) hlo H locs ce sl ls hP hl)
theorem hs_ldc2 (hx : p.tables.exec = Jvm.exec) (hb : c.code = cc)  {own : String} {index : Nat} {z : Int} (hown : s.vm.findClass own = some m.cls) (hc : (Jvm.Cond.constantLong own index (Int64.ofInt z)).before args s = true) (hd : decode cc pc = .ok (.ldc2_w index, 3)) (hz : hv_J z) (hK : hw_S p l e R s m args below meth c Q nL ρ Pic (K) (pc + 3)) : hw_S p l e R s m args below meth c Q nL ρ Pic (hc_lconst z K) (pc) := by
  intro lo st x h
  unfold hc_lconst at h
  intro hst hlo H locs ce sl ls hP hl
  exact lv_ldc2 hx hb hown hc hd (hK _ _ _ h (hv_oks_cons.mpr ⟨hz, hst⟩) hlo H locs ce sl ls hP hl)
theorem hs_lconst (hx : p.tables.exec = Jvm.exec) (hb : c.code = cc)  {n : Fin 2} {z : Int} (hd : decode cc pc = .ok (.lconst n, 1)) (hv : Int64.ofNat (n : Nat) = Int64.ofInt z) (hz : hv_J z) (hK : hw_S p l e R s m args below meth c Q nL ρ Pic (K) (pc + 1)) : hw_S p l e R s m args below meth c Q nL ρ Pic (hc_lconst z K) (pc) := by
  intro lo st x h
  unfold hc_lconst at h
  intro hst hlo H locs ce sl ls hP hl
  exact lv_lconst hx hb hd hv (hK _ _ _ h (hv_oks_cons.mpr ⟨hz, hst⟩) hlo H locs ce sl ls hP hl)
theorem hs_iload (hx : p.tables.exec = Jvm.exec) (hb : c.code = cc)  {i : Nat} (hd : decode cc pc = .ok (.iload i, 2)) (hK : hw_S p l e R s m args below meth c Q nL ρ Pic (K) (pc + 2)) : hw_S p l e R s m args below meth c Q nL ρ Pic (hc_iload i K) (pc) := by
  intro lo st x h
  unfold hc_iload at h
  split at h
  · rename_i z hg
    intro hst hlo H locs ce sl ls hP hl
    exact lv_iload hx hb hd (hl.2.2 _ _ hg) (hK _ _ _ h (hv_oks_cons.mpr ⟨hlo _ _ hg, hst⟩) hlo H locs ce sl ls hP hl)
  · exact h.elim
theorem hs_iload_n (hx : p.tables.exec = Jvm.exec) (hb : c.code = cc)  {i : Nat} {k : Fin 4} (hd : decode cc pc = .ok (.iload_n k, 1)) (hi : (k : Nat) = i) (hK : hw_S p l e R s m args below meth c Q nL ρ Pic (K) (pc + 1)) : hw_S p l e R s m args below meth c Q nL ρ Pic (hc_iload i K) (pc) := by
  intro lo st x h
  unfold hc_iload at h
  split at h
  · rename_i z hg
    intro hst hlo H locs ce sl ls hP hl
    exact lv_iload_n hx hb hd hi (hl.2.2 _ _ hg) (hK _ _ _ h (hv_oks_cons.mpr ⟨hlo _ _ hg, hst⟩) hlo H locs ce sl ls hP hl)
  · exact h.elim
theorem hs_lload (hx : p.tables.exec = Jvm.exec) (hb : c.code = cc)  {i : Nat} (hd : decode cc pc = .ok (.lload i, 2)) (hK : hw_S p l e R s m args below meth c Q nL ρ Pic (K) (pc + 2)) : hw_S p l e R s m args below meth c Q nL ρ Pic (hc_lload i K) (pc) := by
  intro lo st x h
  unfold hc_lload at h
  split at h
  · rename_i z hg
    intro hst hlo H locs ce sl ls hP hl
    exact lv_lload hx hb hd (hl.2.2 _ _ hg) (hK _ _ _ h (hv_oks_cons.mpr ⟨hlo _ _ hg, hst⟩) hlo H locs ce sl ls hP hl)
  · exact h.elim
theorem hs_lload_n (hx : p.tables.exec = Jvm.exec) (hb : c.code = cc)  {i : Nat} {k : Fin 4} (hd : decode cc pc = .ok (.lload_n k, 1)) (hi : (k : Nat) = i) (hK : hw_S p l e R s m args below meth c Q nL ρ Pic (K) (pc + 1)) : hw_S p l e R s m args below meth c Q nL ρ Pic (hc_lload i K) (pc) := by
  intro lo st x h
  unfold hc_lload at h
  split at h
  · rename_i z hg
    intro hst hlo H locs ce sl ls hP hl
    exact lv_lload_n hx hb hd hi (hl.2.2 _ _ hg) (hK _ _ _ h (hv_oks_cons.mpr ⟨hlo _ _ hg, hst⟩) hlo H locs ce sl ls hP hl)
  · exact h.elim
theorem hs_aload (hx : p.tables.exec = Jvm.exec) (hb : c.code = cc)  {i : Nat} (hd : decode cc pc = .ok (.aload i, 2)) (hK : hw_S p l e R s m args below meth c Q nL ρ Pic (K) (pc + 2)) : hw_S p l e R s m args below meth c Q nL ρ Pic (hc_aload i K) (pc) := by
  intro lo st x h
  unfold hc_aload at h
  split at h
  · rename_i a hg
    intro hst hlo H locs ce sl ls hP hl
    exact lv_aload hx hb hd (hl.2.2 _ _ hg) (hK _ _ _ h (hv_oks_cons.mpr ⟨hlo _ _ hg, hst⟩) hlo H locs ce sl ls hP hl)
  · exact h.elim
theorem hs_aload_n (hx : p.tables.exec = Jvm.exec) (hb : c.code = cc)  {i : Nat} {k : Fin 4} (hd : decode cc pc = .ok (.aload_n k, 1)) (hi : (k : Nat) = i) (hK : hw_S p l e R s m args below meth c Q nL ρ Pic (K) (pc + 1)) : hw_S p l e R s m args below meth c Q nL ρ Pic (hc_aload i K) (pc) := by
  intro lo st x h
  unfold hc_aload at h
  split at h
  · rename_i a hg
    intro hst hlo H locs ce sl ls hP hl
    exact lv_aload_n hx hb hd hi (hl.2.2 _ _ hg) (hK _ _ _ h (hv_oks_cons.mpr ⟨hlo _ _ hg, hst⟩) hlo H locs ce sl ls hP hl)
  · exact h.elim
theorem hs_istore (hx : p.tables.exec = Jvm.exec) (hb : c.code = cc)  {i : Nat} (hd : decode cc pc = .ok (.istore i, 2)) (hn : i < nL) (hK : hw_S p l e R s m args below meth c Q nL ρ Pic (K) (pc + 2)) : hw_S p l e R s m args below meth c Q nL ρ Pic (hc_istore i K) (pc) := by
  intro lo st x h
  unfold hc_istore at h
  split at h
  · rename_i z t
    intro hst hlo H locs ce sl ls hP hl
    refine lv_istore hx hb hd (hv_has_kit hl) hn rfl (fun ls' h' => ?_)
    exact hK _ _ _ h.2 (hv_oks_cons.mp hst).2 (hv_okl_set hlo (hv_oks_cons.mp hst).1) H locs ce sl ls' hP (hv_has_set (v := .inl z) h.1 h')
  · exact h.elim
theorem hs_istore_n (hx : p.tables.exec = Jvm.exec) (hb : c.code = cc)  {i : Nat} {k : Fin 4} (hd : decode cc pc = .ok (.istore_n k, 1)) (hi : (k : Nat) = i) (hn : i < nL) (hK : hw_S p l e R s m args below meth c Q nL ρ Pic (K) (pc + 1)) : hw_S p l e R s m args below meth c Q nL ρ Pic (hc_istore i K) (pc) := by
  intro lo st x h
  unfold hc_istore at h
  split at h
  · rename_i z t
    intro hst hlo H locs ce sl ls hP hl
    refine lv_istore_n hx hb hd hi (hv_has_kit hl) hn rfl (fun ls' h' => ?_)
    exact hK _ _ _ h.2 (hv_oks_cons.mp hst).2 (hv_okl_set hlo (hv_oks_cons.mp hst).1) H locs ce sl ls' hP (hv_has_set (v := .inl z) h.1 h')
  · exact h.elim
theorem hs_astore (hx : p.tables.exec = Jvm.exec) (hb : c.code = cc)  {i : Nat} (hd : decode cc pc = .ok (.astore i, 2)) (hn : i < nL) (hK : hw_S p l e R s m args below meth c Q nL ρ Pic (K) (pc + 2)) : hw_S p l e R s m args below meth c Q nL ρ Pic (hc_astore i K) (pc) := by
  intro lo st x h
  unfold hc_astore at h
  split at h
  · rename_i z t
    intro hst hlo H locs ce sl ls hP hl
    refine lv_astore hx hb hd (hv_has_kit hl) hn rfl (fun ls' h' => ?_)
    exact hK _ _ _ h.2 (hv_oks_cons.mp hst).2 (hv_okl_set hlo (hv_oks_cons.mp hst).1) H locs ce sl ls' hP (hv_has_set (v := .inr (.inr z)) h.1 h')
  · exact h.elim
theorem hs_astore_n (hx : p.tables.exec = Jvm.exec) (hb : c.code = cc)  {i : Nat} {k : Fin 4} (hd : decode cc pc = .ok (.astore_n k, 1)) (hi : (k : Nat) = i) (hn : i < nL) (hK : hw_S p l e R s m args below meth c Q nL ρ Pic (K) (pc + 1)) : hw_S p l e R s m args below meth c Q nL ρ Pic (hc_astore i K) (pc) := by
  intro lo st x h
  unfold hc_astore at h
  split at h
  · rename_i z t
    intro hst hlo H locs ce sl ls hP hl
    refine lv_astore_n hx hb hd hi (hv_has_kit hl) hn rfl (fun ls' h' => ?_)
    exact hK _ _ _ h.2 (hv_oks_cons.mp hst).2 (hv_okl_set hlo (hv_oks_cons.mp hst).1) H locs ce sl ls' hP (hv_has_set (v := .inr (.inr z)) h.1 h')
  · exact h.elim
theorem hs_lstore (hx : p.tables.exec = Jvm.exec) (hb : c.code = cc)  {i : Nat} (hd : decode cc pc = .ok (.lstore i, 2)) (hn : i + 1 < nL) (hK : hw_S p l e R s m args below meth c Q nL ρ Pic (K) (pc + 2)) : hw_S p l e R s m args below meth c Q nL ρ Pic (hc_lstore i K) (pc) := by
  intro lo st x h
  unfold hc_lstore at h
  split at h
  · rename_i z t
    intro hst hlo H locs ce sl ls hP hl
    refine lv_lstore hx hb hd (hv_has_kit hl) hn rfl (fun ls' h' => ?_)
    exact hK _ _ _ h.2 (hv_oks_cons.mp hst).2 (hv_okl_set2 hlo (hv_oks_cons.mp hst).1) H locs ce sl ls' hP (hv_has_set2 (v := .inr (.inl z)) h.1.2 h.1.1 h')
  · exact h.elim
theorem hs_lstore_n (hx : p.tables.exec = Jvm.exec) (hb : c.code = cc)  {i : Nat} {k : Fin 4} (hd : decode cc pc = .ok (.lstore_n k, 1)) (hi : (k : Nat) = i) (hn : i + 1 < nL) (hK : hw_S p l e R s m args below meth c Q nL ρ Pic (K) (pc + 1)) : hw_S p l e R s m args below meth c Q nL ρ Pic (hc_lstore i K) (pc) := by
  intro lo st x h
  unfold hc_lstore at h
  split at h
  · rename_i z t
    intro hst hlo H locs ce sl ls hP hl
    refine lv_lstore_n hx hb hd hi (hv_has_kit hl) hn rfl (fun ls' h' => ?_)
    exact hK _ _ _ h.2 (hv_oks_cons.mp hst).2 (hv_okl_set2 hlo (hv_oks_cons.mp hst).1) H locs ce sl ls' hP (hv_has_set2 (v := .inr (.inl z)) h.1.2 h.1.1 h')
  · exact h.elim
theorem hs_iinc (hx : p.tables.exec = Jvm.exec) (hb : c.code = cc)  {i : Nat} {k : Int} (hd : decode cc pc = .ok (.iinc i k, 3)) (hn : i < nL) (hK : hw_S p l e R s m args below meth c Q nL ρ Pic (K) (pc + 3)) : hw_S p l e R s m args below meth c Q nL ρ Pic (hc_iinc i k K) (pc) := by
  intro lo st x h
  unfold hc_iinc at h
  split at h
  · rename_i z hg
    intro hst hlo H locs ce sl ls hP hl
    obtain ⟨j, hj⟩ := List.getElem?_of_mem (hv_toL_mem (ρ := ρ) (lo := lo) (q := (i, hv_t ρ (.inl z))) |>.mpr ⟨_, hg, rfl⟩)
    refine lv_iinc (x := Int32.ofInt z) (v := Int32.ofInt (z + k)) hx hb hd (hv_has_kit hl) (k := j) hj (hi_add z k) hn rfl (fun ls' h' => ?_)
    exact hK _ _ _ h.2.2 hst (hv_okl_set hlo h.2.1) H locs ce sl ls' hP (hv_has_set (v := .inl (z + k)) h.1 h')
  · exact h.elim
theorem hs_dup (hx : p.tables.exec = Jvm.exec) (hb : c.code = cc) (hd : decode cc pc = .ok (.dup, 1)) (hK : hw_S p l e R s m args below meth c Q nL ρ Pic (K) (pc + 1)) : hw_S p l e R s m args below meth c Q nL ρ Pic (hc_dup K) (pc) := by
  intro lo st x h
  unfold hc_dup at h
  split at h
  · intro hst hlo H locs ce sl ls hP hl
    exact lv_dup hx hb hd rfl (hK _ _ _ h (hv_oks_cons.mpr ⟨(hv_oks_cons.mp hst).1, hst⟩) hlo H locs ce sl ls hP hl)
  · intro hst hlo H locs ce sl ls hP hl
    exact lv_dup hx hb hd rfl (hK _ _ _ h (hv_oks_cons.mpr ⟨(hv_oks_cons.mp hst).1, hst⟩) hlo H locs ce sl ls hP hl)
  · exact h.elim
theorem hs_pop (hx : p.tables.exec = Jvm.exec) (hb : c.code = cc) (hd : decode cc pc = .ok (.pop, 1)) (hK : hw_S p l e R s m args below meth c Q nL ρ Pic (K) (pc + 1)) : hw_S p l e R s m args below meth c Q nL ρ Pic (hc_pop K) (pc) := by
  intro lo st x h
  unfold hc_pop at h
  split at h
  · intro hst hlo H locs ce sl ls hP hl
    exact lv_pop hx hb hd rfl (hK _ _ _ h (hv_oks_cons.mp hst).2 hlo H locs ce sl ls hP hl)
  · intro hst hlo H locs ce sl ls hP hl
    exact lv_pop hx hb hd rfl (hK _ _ _ h (hv_oks_cons.mp hst).2 hlo H locs ce sl ls hP hl)
  · exact h.elim
theorem hs_dup2 (hx : p.tables.exec = Jvm.exec) (hb : c.code = cc)  (hd : decode cc pc = .ok (.dup2, 1)) (hK : hw_S p l e R s m args below meth c Q nL ρ Pic (K) (pc + 1)) : hw_S p l e R s m args below meth c Q nL ρ Pic (hc_dup2 K) (pc) := by
  intro lo st x h
  unfold hc_dup2 at h
  split at h
  · rename_i i a t
    intro hst hlo H locs ce sl ls hP hl
    exact lv_dup2_11 hx hb hd rfl rfl (hK _ _ _ h (hv_oks_cons.mpr ⟨(hv_oks_cons.mp hst).1, hv_oks_cons.mpr ⟨trivial, hst⟩⟩) hlo H locs ce sl ls hP hl)
  · exact h.elim
theorem hs_iadd (hx : p.tables.exec = Jvm.exec) (hb : c.code = cc)  (hd : decode cc pc = .ok (.iadd, 1)) (hK : hw_S p l e R s m args below meth c Q nL ρ Pic (K) (pc + 1)) : hw_S p l e R s m args below meth c Q nL ρ Pic (hc_iadd K) (pc) := by
  intro lo st x h
  unfold hc_iadd at h
  split at h
  · rename_i b a t
    intro hst hlo H locs ce sl ls hP hl
    refine lv_iadd hx hb hd ?_
    rw [hi_add]
    exact hK _ _ _ h.2 (hv_oks_cons.mpr ⟨h.1, (hv_oks_cons.mp (hv_oks_cons.mp hst).2).2⟩) hlo H locs ce sl ls hP hl
  · exact h.elim
theorem hs_iaddw (hx : p.tables.exec = Jvm.exec) (hb : c.code = cc)  (hd : decode cc pc = .ok (.iadd, 1)) (hK : hw_S p l e R s m args below meth c Q nL ρ Pic (K) (pc + 1)) : hw_S p l e R s m args below meth c Q nL ρ Pic (hc_iaddw K) (pc) := by
  intro lo st x h
  unfold hc_iaddw at h
  split at h
  · rename_i b a t
    intro hst hlo H locs ce sl ls hP hl
    refine lv_iadd hx hb hd ?_
    rw [hi_add, ← hi_self (Int32.ofInt _)]
    exact hK _ _ _ h (hv_oks_cons.mpr ⟨hi_ok _, (hv_oks_cons.mp (hv_oks_cons.mp hst).2).2⟩) hlo H locs ce sl ls hP hl
  · exact h.elim
theorem hs_isub (hx : p.tables.exec = Jvm.exec) (hb : c.code = cc)  (hd : decode cc pc = .ok (.isub, 1)) (hK : hw_S p l e R s m args below meth c Q nL ρ Pic (K) (pc + 1)) : hw_S p l e R s m args below meth c Q nL ρ Pic (hc_isub K) (pc) := by
  intro lo st x h
  unfold hc_isub at h
  split at h
  · rename_i b a t
    intro hst hlo H locs ce sl ls hP hl
    refine lv_isub hx hb hd ?_
    rw [hi_sub]
    exact hK _ _ _ h.2 (hv_oks_cons.mpr ⟨h.1, (hv_oks_cons.mp (hv_oks_cons.mp hst).2).2⟩) hlo H locs ce sl ls hP hl
  · exact h.elim
theorem hs_isubw (hx : p.tables.exec = Jvm.exec) (hb : c.code = cc)  (hd : decode cc pc = .ok (.isub, 1)) (hK : hw_S p l e R s m args below meth c Q nL ρ Pic (K) (pc + 1)) : hw_S p l e R s m args below meth c Q nL ρ Pic (hc_isubw K) (pc) := by
  intro lo st x h
  unfold hc_isubw at h
  split at h
  · rename_i b a t
    intro hst hlo H locs ce sl ls hP hl
    refine lv_isub hx hb hd ?_
    rw [hi_sub, ← hi_self (Int32.ofInt _)]
    exact hK _ _ _ h (hv_oks_cons.mpr ⟨hi_ok _, (hv_oks_cons.mp (hv_oks_cons.mp hst).2).2⟩) hlo H locs ce sl ls hP hl
  · exact h.elim
theorem hs_imul (hx : p.tables.exec = Jvm.exec) (hb : c.code = cc)  (hd : decode cc pc = .ok (.imul, 1)) (hK : hw_S p l e R s m args below meth c Q nL ρ Pic (K) (pc + 1)) : hw_S p l e R s m args below meth c Q nL ρ Pic (hc_imul K) (pc) := by
  intro lo st x h
  unfold hc_imul at h
  split at h
  · rename_i b a t
    intro hst hlo H locs ce sl ls hP hl
    refine lv_imul hx hb hd ?_
    rw [hi_mul]
    exact hK _ _ _ h.2 (hv_oks_cons.mpr ⟨h.1, (hv_oks_cons.mp (hv_oks_cons.mp hst).2).2⟩) hlo H locs ce sl ls hP hl
  · exact h.elim
theorem hs_imulw (hx : p.tables.exec = Jvm.exec) (hb : c.code = cc)  (hd : decode cc pc = .ok (.imul, 1)) (hK : hw_S p l e R s m args below meth c Q nL ρ Pic (K) (pc + 1)) : hw_S p l e R s m args below meth c Q nL ρ Pic (hc_imulw K) (pc) := by
  intro lo st x h
  unfold hc_imulw at h
  split at h
  · rename_i b a t
    intro hst hlo H locs ce sl ls hP hl
    refine lv_imul hx hb hd ?_
    rw [hi_mul, ← hi_self (Int32.ofInt _)]
    exact hK _ _ _ h (hv_oks_cons.mpr ⟨hi_ok _, (hv_oks_cons.mp (hv_oks_cons.mp hst).2).2⟩) hlo H locs ce sl ls hP hl
  · exact h.elim
theorem hs_ineg (hx : p.tables.exec = Jvm.exec) (hb : c.code = cc)  (hd : decode cc pc = .ok (.ineg, 1)) (hK : hw_S p l e R s m args below meth c Q nL ρ Pic (K) (pc + 1)) : hw_S p l e R s m args below meth c Q nL ρ Pic (hc_ineg K) (pc) := by
  intro lo st x h
  unfold hc_ineg at h
  split at h
  · rename_i a t
    intro hst hlo H locs ce sl ls hP hl
    refine lv_ineg hx hb hd ?_
    rw [hi_neg]
    exact hK _ _ _ h.2 (hv_oks_cons.mpr ⟨h.1, (hv_oks_cons.mp hst).2⟩) hlo H locs ce sl ls hP hl
  · exact h.elim
theorem hs_inegw (hx : p.tables.exec = Jvm.exec) (hb : c.code = cc)  (hd : decode cc pc = .ok (.ineg, 1)) (hK : hw_S p l e R s m args below meth c Q nL ρ Pic (K) (pc + 1)) : hw_S p l e R s m args below meth c Q nL ρ Pic (hc_inegw K) (pc) := by
  intro lo st x h
  unfold hc_inegw at h
  split at h
  · rename_i a t
    intro hst hlo H locs ce sl ls hP hl
    refine lv_ineg hx hb hd ?_
    rw [hi_neg, ← hi_self (Int32.ofInt _)]
    exact hK _ _ _ h (hv_oks_cons.mpr ⟨hi_ok _, (hv_oks_cons.mp hst).2⟩) hlo H locs ce sl ls hP hl
  · exact h.elim
theorem hs_idiv (hx : p.tables.exec = Jvm.exec) (hb : c.code = cc)  (hd : decode cc pc = .ok (.idiv, 1)) (hK : hw_S p l e R s m args below meth c Q nL ρ Pic (K) (pc + 1)) : hw_S p l e R s m args below meth c Q nL ρ Pic (hc_idiv K) (pc) := by
  intro lo st x h
  unfold hc_idiv at h
  split at h
  · rename_i b a t
    intro hst hlo H locs ce sl ls hP hl
    refine lv_idiv hx hb hd (hi_ne0 (hv_oks_cons.mp hst).1 h.1.1) ?_
    rw [hi_div (hv_oks_cons.mp (hv_oks_cons.mp hst).2).1 (hv_oks_cons.mp hst).1 h.1.2]
    exact hK _ _ _ h.2 (hv_oks_cons.mpr ⟨hi_divok (hv_oks_cons.mp (hv_oks_cons.mp hst).2).1 h.1.2, (hv_oks_cons.mp (hv_oks_cons.mp hst).2).2⟩) hlo H locs ce sl ls hP hl
  · exact h.elim
theorem hs_irem (hx : p.tables.exec = Jvm.exec) (hb : c.code = cc)  (hd : decode cc pc = .ok (.irem, 1)) (hK : hw_S p l e R s m args below meth c Q nL ρ Pic (K) (pc + 1)) : hw_S p l e R s m args below meth c Q nL ρ Pic (hc_irem K) (pc) := by
  intro lo st x h
  unfold hc_irem at h
  split at h
  · rename_i b a t
    intro hst hlo H locs ce sl ls hP hl
    refine lv_irem hx hb hd (hi_ne0 (hv_oks_cons.mp hst).1 h.1.1) ?_
    rw [hi_rem (hv_oks_cons.mp (hv_oks_cons.mp hst).2).1 (hv_oks_cons.mp hst).1 h.1.2]
    exact hK _ _ _ h.2 (hv_oks_cons.mpr ⟨hi_remok (hv_oks_cons.mp (hv_oks_cons.mp hst).2).1, (hv_oks_cons.mp (hv_oks_cons.mp hst).2).2⟩) hlo H locs ce sl ls hP hl
  · exact h.elim
theorem hs_iand (hx : p.tables.exec = Jvm.exec) (hb : c.code = cc)  (hd : decode cc pc = .ok (.iand, 1)) (hK : hw_S p l e R s m args below meth c Q nL ρ Pic (K) (pc + 1)) : hw_S p l e R s m args below meth c Q nL ρ Pic (hc_b2 hv_and K) (pc) := by
  intro lo st x h
  unfold hc_b2 at h
  split at h
  · rename_i b a t
    intro hst hlo H locs ce sl ls hP hl
    have z := hK _ _ _ h (hv_oks_cons.mpr ⟨hi_ok _, (hv_oks_cons.mp (hv_oks_cons.mp hst).2).2⟩) hlo H locs ce sl ls hP hl
    simp only [List.map_cons, hv_t, hv_and, hi_self] at z
    exact lv_iand hx hb hd z
  · exact h.elim
theorem hs_ior (hx : p.tables.exec = Jvm.exec) (hb : c.code = cc)  (hd : decode cc pc = .ok (.ior, 1)) (hK : hw_S p l e R s m args below meth c Q nL ρ Pic (K) (pc + 1)) : hw_S p l e R s m args below meth c Q nL ρ Pic (hc_b2 hv_or K) (pc) := by
  intro lo st x h
  unfold hc_b2 at h
  split at h
  · rename_i b a t
    intro hst hlo H locs ce sl ls hP hl
    have z := hK _ _ _ h (hv_oks_cons.mpr ⟨hi_ok _, (hv_oks_cons.mp (hv_oks_cons.mp hst).2).2⟩) hlo H locs ce sl ls hP hl
    simp only [List.map_cons, hv_t, hv_or, hi_self] at z
    exact lv_ior hx hb hd z
  · exact h.elim
theorem hs_ixor (hx : p.tables.exec = Jvm.exec) (hb : c.code = cc)  (hd : decode cc pc = .ok (.ixor, 1)) (hK : hw_S p l e R s m args below meth c Q nL ρ Pic (K) (pc + 1)) : hw_S p l e R s m args below meth c Q nL ρ Pic (hc_b2 hv_xor K) (pc) := by
  intro lo st x h
  unfold hc_b2 at h
  split at h
  · rename_i b a t
    intro hst hlo H locs ce sl ls hP hl
    have z := hK _ _ _ h (hv_oks_cons.mpr ⟨hi_ok _, (hv_oks_cons.mp (hv_oks_cons.mp hst).2).2⟩) hlo H locs ce sl ls hP hl
    simp only [List.map_cons, hv_t, hv_xor, hi_self] at z
    exact lv_ixor hx hb hd z
  · exact h.elim
theorem hs_ishl (hx : p.tables.exec = Jvm.exec) (hb : c.code = cc)  (hd : decode cc pc = .ok (.ishl, 1)) (hK : hw_S p l e R s m args below meth c Q nL ρ Pic (K) (pc + 1)) : hw_S p l e R s m args below meth c Q nL ρ Pic (hc_b2 hv_shl K) (pc) := by
  intro lo st x h
  unfold hc_b2 at h
  split at h
  · rename_i b a t
    intro hst hlo H locs ce sl ls hP hl
    have z := hK _ _ _ h (hv_oks_cons.mpr ⟨hi_ok _, (hv_oks_cons.mp (hv_oks_cons.mp hst).2).2⟩) hlo H locs ce sl ls hP hl
    simp only [List.map_cons, hv_t, hv_shl, hi_self] at z
    exact lv_ishl hx hb hd z
  · exact h.elim
theorem hs_ishr (hx : p.tables.exec = Jvm.exec) (hb : c.code = cc)  (hd : decode cc pc = .ok (.ishr, 1)) (hK : hw_S p l e R s m args below meth c Q nL ρ Pic (K) (pc + 1)) : hw_S p l e R s m args below meth c Q nL ρ Pic (hc_b2 hv_shr K) (pc) := by
  intro lo st x h
  unfold hc_b2 at h
  split at h
  · rename_i b a t
    intro hst hlo H locs ce sl ls hP hl
    have z := hK _ _ _ h (hv_oks_cons.mpr ⟨hi_ok _, (hv_oks_cons.mp (hv_oks_cons.mp hst).2).2⟩) hlo H locs ce sl ls hP hl
    simp only [List.map_cons, hv_t, hv_shr, hi_self] at z
    exact lv_ishr hx hb hd z
  · exact h.elim
theorem hs_iushr (hx : p.tables.exec = Jvm.exec) (hb : c.code = cc)  (hd : decode cc pc = .ok (.iushr, 1)) (hK : hw_S p l e R s m args below meth c Q nL ρ Pic (K) (pc + 1)) : hw_S p l e R s m args below meth c Q nL ρ Pic (hc_b2 hv_ushr K) (pc) := by
  intro lo st x h
  unfold hc_b2 at h
  split at h
  · rename_i b a t
    intro hst hlo H locs ce sl ls hP hl
    refine lv_iushr hx hb hd (hi_self _).symm ?_
    exact hK _ _ _ h (hv_oks_cons.mpr ⟨hi_ok _, (hv_oks_cons.mp (hv_oks_cons.mp hst).2).2⟩) hlo H locs ce sl ls hP hl
  · exact h.elim
theorem hs_i2b (hx : p.tables.exec = Jvm.exec) (hb : c.code = cc)  (hd : decode cc pc = .ok (.i2b, 1)) (hK : hw_S p l e R s m args below meth c Q nL ρ Pic (K) (pc + 1)) : hw_S p l e R s m args below meth c Q nL ρ Pic (hc_b1 hv_i2b K) (pc) := by
  intro lo st x h
  unfold hc_b1 at h
  split at h
  · rename_i a t
    intro hst hlo H locs ce sl ls hP hl
    refine lv_i2b hx hb hd (hi_self _).symm ?_
    exact hK _ _ _ h (hv_oks_cons.mpr ⟨hi_ok _, (hv_oks_cons.mp hst).2⟩) hlo H locs ce sl ls hP hl
  · exact h.elim
theorem hs_i2s (hx : p.tables.exec = Jvm.exec) (hb : c.code = cc)  (hd : decode cc pc = .ok (.i2s, 1)) (hK : hw_S p l e R s m args below meth c Q nL ρ Pic (K) (pc + 1)) : hw_S p l e R s m args below meth c Q nL ρ Pic (hc_b1 hv_i2s K) (pc) := by
  intro lo st x h
  unfold hc_b1 at h
  split at h
  · rename_i a t
    intro hst hlo H locs ce sl ls hP hl
    refine lv_i2s hx hb hd (hi_self _).symm ?_
    exact hK _ _ _ h (hv_oks_cons.mpr ⟨hi_ok _, (hv_oks_cons.mp hst).2⟩) hlo H locs ce sl ls hP hl
  · exact h.elim
theorem hs_i2c (hx : p.tables.exec = Jvm.exec) (hb : c.code = cc)  (hd : decode cc pc = .ok (.i2c, 1)) (hK : hw_S p l e R s m args below meth c Q nL ρ Pic (K) (pc + 1)) : hw_S p l e R s m args below meth c Q nL ρ Pic (hc_b1 hv_i2c K) (pc) := by
  intro lo st x h
  unfold hc_b1 at h
  split at h
  · rename_i a t
    intro hst hlo H locs ce sl ls hP hl
    refine lv_i2c hx hb hd (hi_self _).symm ?_
    exact hK _ _ _ h (hv_oks_cons.mpr ⟨hi_ok _, (hv_oks_cons.mp hst).2⟩) hlo H locs ce sl ls hP hl
  · exact h.elim
theorem hs_i2l (hx : p.tables.exec = Jvm.exec) (hb : c.code = cc)  (hd : decode cc pc = .ok (.i2l, 1)) (hK : hw_S p l e R s m args below meth c Q nL ρ Pic (K) (pc + 1)) : hw_S p l e R s m args below meth c Q nL ρ Pic (hc_i2l K) (pc) := by
  intro lo st x h
  unfold hc_i2l at h
  split at h
  · rename_i a t
    intro hst hlo H locs ce sl ls hP hl
    have ha : hv_I a := (hv_oks_cons.mp hst).1
    refine lv_i2l (v := Int64.ofInt a) hx hb hd ?_ ?_
    · exact Int32.toInt64_ofInt (by have := ha.1; show (-2147483648 : Int) ≤ a; omega) (by have := ha.2; show a ≤ (2147483647 : Int); omega)
    · exact hK _ _ _ h (hv_oks_cons.mpr ⟨⟨by have := ha.1; omega, by have := ha.2; omega⟩, (hv_oks_cons.mp hst).2⟩) hlo H locs ce sl ls hP hl
  · exact h.elim
theorem hs_l2i (hx : p.tables.exec = Jvm.exec) (hb : c.code = cc)  (hd : decode cc pc = .ok (.l2i, 1)) (hK : hw_S p l e R s m args below meth c Q nL ρ Pic (K) (pc + 1)) : hw_S p l e R s m args below meth c Q nL ρ Pic (hc_l2i K) (pc) := by
  intro lo st x h
  unfold hc_l2i at h
  split at h
  · rename_i a t
    intro hst hlo H locs ce sl ls hP hl
    refine lv_l2i hx hb hd (hi_self _).symm ?_
    exact hK _ _ _ h (hv_oks_cons.mpr ⟨hi_ok _, (hv_oks_cons.mp hst).2⟩) hlo H locs ce sl ls hP hl
  · exact h.elim
theorem hs_ladd (hx : p.tables.exec = Jvm.exec) (hb : c.code = cc)  (hd : decode cc pc = .ok (.ladd, 1)) (hK : hw_S p l e R s m args below meth c Q nL ρ Pic (K) (pc + 1)) : hw_S p l e R s m args below meth c Q nL ρ Pic (hc_ladd K) (pc) := by
  intro lo st x h
  unfold hc_ladd at h
  split at h
  · rename_i b a t
    intro hst hlo H locs ce sl ls hP hl
    refine lv_ladd hx hb hd ?_
    rw [← Int64.ofInt_add]
    exact hK _ _ _ h.2 (hv_oks_cons.mpr ⟨h.1, (hv_oks_cons.mp (hv_oks_cons.mp hst).2).2⟩) hlo H locs ce sl ls hP hl
  · exact h.elim
theorem hs_land (hx : p.tables.exec = Jvm.exec) (hb : c.code = cc)  (hd : decode cc pc = .ok (.land, 1)) (hK : hw_S p l e R s m args below meth c Q nL ρ Pic (K) (pc + 1)) : hw_S p l e R s m args below meth c Q nL ρ Pic (hc_l2 hv_land K) (pc) := by
  intro lo st x h
  unfold hc_l2 at h
  split at h
  · rename_i b a t
    intro hst hlo H locs ce sl ls hP hl
    have z := hK _ _ _ h (hv_oks_cons.mpr ⟨hj_ok _, (hv_oks_cons.mp (hv_oks_cons.mp hst).2).2⟩) hlo H locs ce sl ls hP hl
    simp only [List.map_cons, hv_t, hv_land, hj_self] at z
    exact lv_land hx hb hd z
  · exact h.elim
theorem hs_lor (hx : p.tables.exec = Jvm.exec) (hb : c.code = cc)  (hd : decode cc pc = .ok (.lor, 1)) (hK : hw_S p l e R s m args below meth c Q nL ρ Pic (K) (pc + 1)) : hw_S p l e R s m args below meth c Q nL ρ Pic (hc_l2 hv_lor K) (pc) := by
  intro lo st x h
  unfold hc_l2 at h
  split at h
  · rename_i b a t
    intro hst hlo H locs ce sl ls hP hl
    have z := hK _ _ _ h (hv_oks_cons.mpr ⟨hj_ok _, (hv_oks_cons.mp (hv_oks_cons.mp hst).2).2⟩) hlo H locs ce sl ls hP hl
    simp only [List.map_cons, hv_t, hv_lor, hj_self] at z
    exact lv_lor hx hb hd z
  · exact h.elim
theorem hs_lshl (hx : p.tables.exec = Jvm.exec) (hb : c.code = cc)  (hd : decode cc pc = .ok (.lshl, 1)) (hK : hw_S p l e R s m args below meth c Q nL ρ Pic (K) (pc + 1)) : hw_S p l e R s m args below meth c Q nL ρ Pic (hc_lsh hv_lshl K) (pc) := by
  intro lo st x h
  unfold hc_lsh at h
  split at h
  · rename_i b a t
    intro hst hlo H locs ce sl ls hP hl
    refine lv_lshl hx hb hd (hj_self _).symm ?_
    exact hK _ _ _ h (hv_oks_cons.mpr ⟨hj_ok _, (hv_oks_cons.mp (hv_oks_cons.mp hst).2).2⟩) hlo H locs ce sl ls hP hl
  · exact h.elim
theorem hs_lshr (hx : p.tables.exec = Jvm.exec) (hb : c.code = cc)  (hd : decode cc pc = .ok (.lshr, 1)) (hK : hw_S p l e R s m args below meth c Q nL ρ Pic (K) (pc + 1)) : hw_S p l e R s m args below meth c Q nL ρ Pic (hc_lsh hv_lshr K) (pc) := by
  intro lo st x h
  unfold hc_lsh at h
  split at h
  · rename_i b a t
    intro hst hlo H locs ce sl ls hP hl
    refine lv_lshr hx hb hd (hj_self _).symm ?_
    exact hK _ _ _ h (hv_oks_cons.mpr ⟨hj_ok _, (hv_oks_cons.mp (hv_oks_cons.mp hst).2).2⟩) hlo H locs ce sl ls hP hl
  · exact h.elim
theorem hs_lcmp (hx : p.tables.exec = Jvm.exec) (hb : c.code = cc)  (hd : decode cc pc = .ok (.lcmp, 1)) (hK : hw_S p l e R s m args below meth c Q nL ρ Pic (K) (pc + 1)) : hw_S p l e R s m args below meth c Q nL ρ Pic (hc_lcmp K) (pc) := by
  intro lo st x h
  unfold hc_lcmp at h
  split at h
  · rename_i b a t
    intro hst hlo H locs ce sl ls hP hl
    refine W.lcmp hx hb hd ?_
    have e : lg_cmp (Int64.ofInt a) (Int64.ofInt b) = Int32.ofInt (hv_cmp a b) := by
      have h1 : (Int64.ofInt a < Int64.ofInt b) = (a < b) := by rw [Int64.lt_iff_toInt_lt, hj_toInt (hv_oks_cons.mp (hv_oks_cons.mp hst).2).1, hj_toInt (hv_oks_cons.mp hst).1]
      have h2 : (Int64.ofInt a = Int64.ofInt b) = (a = b) := by rw [← Int64.toInt_inj, hj_toInt (hv_oks_cons.mp (hv_oks_cons.mp hst).2).1, hj_toInt (hv_oks_cons.mp hst).1]
      have h3 : (Int64.ofInt b < Int64.ofInt a) = (b < a) := by rw [Int64.lt_iff_toInt_lt, hj_toInt (hv_oks_cons.mp (hv_oks_cons.mp hst).2).1, hj_toInt (hv_oks_cons.mp hst).1]
      unfold lg_cmp hv_cmp
      (repeat' split) <;> first | rfl | (simp_all; done) | (exfalso; simp_all; omega)
    rw [e]
    exact hK _ _ _ h (hv_oks_cons.mpr ⟨(show hv_I (hv_cmp a b) by unfold hv_cmp; (repeat' split) <;> decide), (hv_oks_cons.mp (hv_oks_cons.mp hst).2).2⟩) hlo H locs ce sl ls hP hl
  · exact h.elim
theorem hs_if_eq (hx : p.tables.exec = Jvm.exec) (hb : c.code = cc) {off : Int} {tgt : Nat} (hd : decode cc pc = .ok (.ifCond .eq off, 3)) (ht : (pc : Int) + off = (tgt : Int)) (hKt : hw_S p l e R s m args below meth c Q nL ρ Pic (Kt) (tgt)) (hKf : hw_S p l e R s m args below meth c Q nL ρ Pic (Kf) (pc + 3)) : hw_S p l e R s m args below meth c Q nL ρ Pic (hc_if (fun a => a = 0) Kt Kf) (pc) := by
  intro lo st x h
  unfold hc_if at h
  split at h
  · rename_i a t
    intro hst hlo H locs ce sl ls hP hl
    have hq := (hi_z ▸ hi_eq (hv_oks_cons.mp hst).1 hi_0)
    refine lv_if_eq hx hb hd ht (fun h1 => hKt _ _ _ (h.1 ?_) (hv_oks_cons.mp hst).2 hlo H locs ce sl ls hP hl) (fun h1 => hKf _ _ _ (h.2 ?_) (hv_oks_cons.mp hst).2 hlo H locs ce sl ls hP hl)
    · first | exact hq.mp h1 | exact fun z => h1 (hq.mpr z) | exact fun z => hq.mpr z h1 | exact Decidable.not_not.mp (fun z => h1 (hq.mpr z)) | (intro z; exact absurd h1 (by simpa using hq.mpr z))
    · first | exact hq.mp h1 | exact fun z => h1 (hq.mpr z) | exact fun z => hq.mpr z h1 | exact Decidable.not_not.mp (fun z => h1 (hq.mpr z)) | (intro z; exact absurd h1 (by simpa using hq.mpr z))
  · exact h.elim
theorem hs_if_ne (hx : p.tables.exec = Jvm.exec) (hb : c.code = cc) {off : Int} {tgt : Nat} (hd : decode cc pc = .ok (.ifCond .ne off, 3)) (ht : (pc : Int) + off = (tgt : Int)) (hKt : hw_S p l e R s m args below meth c Q nL ρ Pic (Kt) (tgt)) (hKf : hw_S p l e R s m args below meth c Q nL ρ Pic (Kf) (pc + 3)) : hw_S p l e R s m args below meth c Q nL ρ Pic (hc_if (fun a => ¬ a = 0) Kt Kf) (pc) := by
  intro lo st x h
  unfold hc_if at h
  split at h
  · rename_i a t
    intro hst hlo H locs ce sl ls hP hl
    have hq := (not_congr (hi_z ▸ hi_eq (hv_oks_cons.mp hst).1 hi_0))
    refine lv_if_ne hx hb hd ht (fun h1 => hKt _ _ _ (h.1 ?_) (hv_oks_cons.mp hst).2 hlo H locs ce sl ls hP hl) (fun h1 => hKf _ _ _ (h.2 ?_) (hv_oks_cons.mp hst).2 hlo H locs ce sl ls hP hl)
    · first | exact hq.mp h1 | exact fun z => h1 (hq.mpr z) | exact fun z => hq.mpr z h1 | exact Decidable.not_not.mp (fun z => h1 (hq.mpr z)) | (intro z; exact absurd h1 (by simpa using hq.mpr z))
    · first | exact hq.mp h1 | exact fun z => h1 (hq.mpr z) | exact fun z => hq.mpr z h1 | exact Decidable.not_not.mp (fun z => h1 (hq.mpr z)) | (intro z; exact absurd h1 (by simpa using hq.mpr z))
  · exact h.elim
theorem hs_if_lt (hx : p.tables.exec = Jvm.exec) (hb : c.code = cc) {off : Int} {tgt : Nat} (hd : decode cc pc = .ok (.ifCond .lt off, 3)) (ht : (pc : Int) + off = (tgt : Int)) (hKt : hw_S p l e R s m args below meth c Q nL ρ Pic (Kt) (tgt)) (hKf : hw_S p l e R s m args below meth c Q nL ρ Pic (Kf) (pc + 3)) : hw_S p l e R s m args below meth c Q nL ρ Pic (hc_if (fun a => a < 0) Kt Kf) (pc) := by
  intro lo st x h
  unfold hc_if at h
  split at h
  · rename_i a t
    intro hst hlo H locs ce sl ls hP hl
    have hq := (hi_z ▸ hi_lt (hv_oks_cons.mp hst).1 hi_0)
    refine lv_if_lt hx hb hd ht (fun h1 => hKt _ _ _ (h.1 ?_) (hv_oks_cons.mp hst).2 hlo H locs ce sl ls hP hl) (fun h1 => hKf _ _ _ (h.2 ?_) (hv_oks_cons.mp hst).2 hlo H locs ce sl ls hP hl)
    · first | exact hq.mp h1 | exact fun z => h1 (hq.mpr z) | exact fun z => hq.mpr z h1 | exact Decidable.not_not.mp (fun z => h1 (hq.mpr z)) | (intro z; exact absurd h1 (by simpa using hq.mpr z))
    · first | exact hq.mp h1 | exact fun z => h1 (hq.mpr z) | exact fun z => hq.mpr z h1 | exact Decidable.not_not.mp (fun z => h1 (hq.mpr z)) | (intro z; exact absurd h1 (by simpa using hq.mpr z))
  · exact h.elim
theorem hs_if_ge (hx : p.tables.exec = Jvm.exec) (hb : c.code = cc) {off : Int} {tgt : Nat} (hd : decode cc pc = .ok (.ifCond .ge off, 3)) (ht : (pc : Int) + off = (tgt : Int)) (hKt : hw_S p l e R s m args below meth c Q nL ρ Pic (Kt) (tgt)) (hKf : hw_S p l e R s m args below meth c Q nL ρ Pic (Kf) (pc + 3)) : hw_S p l e R s m args below meth c Q nL ρ Pic (hc_if (fun a => 0 ≤ a) Kt Kf) (pc) := by
  intro lo st x h
  unfold hc_if at h
  split at h
  · rename_i a t
    intro hst hlo H locs ce sl ls hP hl
    have hq := (hi_z ▸ hi_le hi_0 (hv_oks_cons.mp hst).1)
    refine lv_if_ge hx hb hd ht (fun h1 => hKt _ _ _ (h.1 ?_) (hv_oks_cons.mp hst).2 hlo H locs ce sl ls hP hl) (fun h1 => hKf _ _ _ (h.2 ?_) (hv_oks_cons.mp hst).2 hlo H locs ce sl ls hP hl)
    · first | exact hq.mp h1 | exact fun z => h1 (hq.mpr z) | exact fun z => hq.mpr z h1 | exact Decidable.not_not.mp (fun z => h1 (hq.mpr z)) | (intro z; exact absurd h1 (by simpa using hq.mpr z))
    · first | exact hq.mp h1 | exact fun z => h1 (hq.mpr z) | exact fun z => hq.mpr z h1 | exact Decidable.not_not.mp (fun z => h1 (hq.mpr z)) | (intro z; exact absurd h1 (by simpa using hq.mpr z))
  · exact h.elim
theorem hs_if_gt (hx : p.tables.exec = Jvm.exec) (hb : c.code = cc) {off : Int} {tgt : Nat} (hd : decode cc pc = .ok (.ifCond .gt off, 3)) (ht : (pc : Int) + off = (tgt : Int)) (hKt : hw_S p l e R s m args below meth c Q nL ρ Pic (Kt) (tgt)) (hKf : hw_S p l e R s m args below meth c Q nL ρ Pic (Kf) (pc + 3)) : hw_S p l e R s m args below meth c Q nL ρ Pic (hc_if (fun a => 0 < a) Kt Kf) (pc) := by
  intro lo st x h
  unfold hc_if at h
  split at h
  · rename_i a t
    intro hst hlo H locs ce sl ls hP hl
    have hq := (hi_z ▸ hi_lt hi_0 (hv_oks_cons.mp hst).1)
    refine lv_if_gt hx hb hd ht (fun h1 => hKt _ _ _ (h.1 ?_) (hv_oks_cons.mp hst).2 hlo H locs ce sl ls hP hl) (fun h1 => hKf _ _ _ (h.2 ?_) (hv_oks_cons.mp hst).2 hlo H locs ce sl ls hP hl)
    · first | exact hq.mp h1 | exact fun z => h1 (hq.mpr z) | exact fun z => hq.mpr z h1 | exact Decidable.not_not.mp (fun z => h1 (hq.mpr z)) | (intro z; exact absurd h1 (by simpa using hq.mpr z))
    · first | exact hq.mp h1 | exact fun z => h1 (hq.mpr z) | exact fun z => hq.mpr z h1 | exact Decidable.not_not.mp (fun z => h1 (hq.mpr z)) | (intro z; exact absurd h1 (by simpa using hq.mpr z))
  · exact h.elim
theorem hs_if_le (hx : p.tables.exec = Jvm.exec) (hb : c.code = cc) {off : Int} {tgt : Nat} (hd : decode cc pc = .ok (.ifCond .le off, 3)) (ht : (pc : Int) + off = (tgt : Int)) (hKt : hw_S p l e R s m args below meth c Q nL ρ Pic (Kt) (tgt)) (hKf : hw_S p l e R s m args below meth c Q nL ρ Pic (Kf) (pc + 3)) : hw_S p l e R s m args below meth c Q nL ρ Pic (hc_if (fun a => a ≤ 0) Kt Kf) (pc) := by
  intro lo st x h
  unfold hc_if at h
  split at h
  · rename_i a t
    intro hst hlo H locs ce sl ls hP hl
    have hq := (hi_z ▸ hi_le (hv_oks_cons.mp hst).1 hi_0)
    refine lv_if_le hx hb hd ht (fun h1 => hKt _ _ _ (h.1 ?_) (hv_oks_cons.mp hst).2 hlo H locs ce sl ls hP hl) (fun h1 => hKf _ _ _ (h.2 ?_) (hv_oks_cons.mp hst).2 hlo H locs ce sl ls hP hl)
    · first | exact hq.mp h1 | exact fun z => h1 (hq.mpr z) | exact fun z => hq.mpr z h1 | exact Decidable.not_not.mp (fun z => h1 (hq.mpr z)) | (intro z; exact absurd h1 (by simpa using hq.mpr z))
    · first | exact hq.mp h1 | exact fun z => h1 (hq.mpr z) | exact fun z => hq.mpr z h1 | exact Decidable.not_not.mp (fun z => h1 (hq.mpr z)) | (intro z; exact absurd h1 (by simpa using hq.mpr z))
  · exact h.elim
theorem hs_icmp_eq (hx : p.tables.exec = Jvm.exec) (hb : c.code = cc) {off : Int} {tgt : Nat} (hd : decode cc pc = .ok (.if_icmp .eq off, 3)) (ht : (pc : Int) + off = (tgt : Int)) (hKt : hw_S p l e R s m args below meth c Q nL ρ Pic (Kt) (tgt)) (hKf : hw_S p l e R s m args below meth c Q nL ρ Pic (Kf) (pc + 3)) : hw_S p l e R s m args below meth c Q nL ρ Pic (hc_icmp (fun a b => a = b) Kt Kf) (pc) := by
  intro lo st x h
  unfold hc_icmp at h
  split at h
  · rename_i b a t
    intro hst hlo H locs ce sl ls hP hl
    have hq := hi_eq (hv_oks_cons.mp (hv_oks_cons.mp hst).2).1 (hv_oks_cons.mp hst).1
    refine lv_icmp_eq hx hb hd ht (fun h1 => hKt _ _ _ (h.1 ?_) (hv_oks_cons.mp (hv_oks_cons.mp hst).2).2 hlo H locs ce sl ls hP hl) (fun h1 => hKf _ _ _ (h.2 ?_) (hv_oks_cons.mp (hv_oks_cons.mp hst).2).2 hlo H locs ce sl ls hP hl)
    · first | exact hq.mp h1 | exact fun z => h1 (hq.mpr z) | exact fun z => hq.mpr z h1 | exact Decidable.not_not.mp (fun z => h1 (hq.mpr z)) | (intro z; exact absurd h1 (by simpa using hq.mpr z))
    · first | exact hq.mp h1 | exact fun z => h1 (hq.mpr z) | exact fun z => hq.mpr z h1 | exact Decidable.not_not.mp (fun z => h1 (hq.mpr z)) | (intro z; exact absurd h1 (by simpa using hq.mpr z))
  · exact h.elim
theorem hs_icmp_ne (hx : p.tables.exec = Jvm.exec) (hb : c.code = cc) {off : Int} {tgt : Nat} (hd : decode cc pc = .ok (.if_icmp .ne off, 3)) (ht : (pc : Int) + off = (tgt : Int)) (hKt : hw_S p l e R s m args below meth c Q nL ρ Pic (Kt) (tgt)) (hKf : hw_S p l e R s m args below meth c Q nL ρ Pic (Kf) (pc + 3)) : hw_S p l e R s m args below meth c Q nL ρ Pic (hc_icmp (fun a b => ¬ a = b) Kt Kf) (pc) := by
  intro lo st x h
  unfold hc_icmp at h
  split at h
  · rename_i b a t
    intro hst hlo H locs ce sl ls hP hl
    have hq := not_congr (hi_eq (hv_oks_cons.mp (hv_oks_cons.mp hst).2).1 (hv_oks_cons.mp hst).1)
    refine lv_icmp_ne hx hb hd ht (fun h1 => hKt _ _ _ (h.1 ?_) (hv_oks_cons.mp (hv_oks_cons.mp hst).2).2 hlo H locs ce sl ls hP hl) (fun h1 => hKf _ _ _ (h.2 ?_) (hv_oks_cons.mp (hv_oks_cons.mp hst).2).2 hlo H locs ce sl ls hP hl)
    · first | exact hq.mp h1 | exact fun z => h1 (hq.mpr z) | exact fun z => hq.mpr z h1 | exact Decidable.not_not.mp (fun z => h1 (hq.mpr z)) | (intro z; exact absurd h1 (by simpa using hq.mpr z))
    · first | exact hq.mp h1 | exact fun z => h1 (hq.mpr z) | exact fun z => hq.mpr z h1 | exact Decidable.not_not.mp (fun z => h1 (hq.mpr z)) | (intro z; exact absurd h1 (by simpa using hq.mpr z))
  · exact h.elim
theorem hs_icmp_lt (hx : p.tables.exec = Jvm.exec) (hb : c.code = cc) {off : Int} {tgt : Nat} (hd : decode cc pc = .ok (.if_icmp .lt off, 3)) (ht : (pc : Int) + off = (tgt : Int)) (hKt : hw_S p l e R s m args below meth c Q nL ρ Pic (Kt) (tgt)) (hKf : hw_S p l e R s m args below meth c Q nL ρ Pic (Kf) (pc + 3)) : hw_S p l e R s m args below meth c Q nL ρ Pic (hc_icmp (fun a b => a < b) Kt Kf) (pc) := by
  intro lo st x h
  unfold hc_icmp at h
  split at h
  · rename_i b a t
    intro hst hlo H locs ce sl ls hP hl
    have hq := hi_lt (hv_oks_cons.mp (hv_oks_cons.mp hst).2).1 (hv_oks_cons.mp hst).1
    refine lv_icmp_lt hx hb hd ht (fun h1 => hKt _ _ _ (h.1 ?_) (hv_oks_cons.mp (hv_oks_cons.mp hst).2).2 hlo H locs ce sl ls hP hl) (fun h1 => hKf _ _ _ (h.2 ?_) (hv_oks_cons.mp (hv_oks_cons.mp hst).2).2 hlo H locs ce sl ls hP hl)
    · first | exact hq.mp h1 | exact fun z => h1 (hq.mpr z) | exact fun z => hq.mpr z h1 | exact Decidable.not_not.mp (fun z => h1 (hq.mpr z)) | (intro z; exact absurd h1 (by simpa using hq.mpr z))
    · first | exact hq.mp h1 | exact fun z => h1 (hq.mpr z) | exact fun z => hq.mpr z h1 | exact Decidable.not_not.mp (fun z => h1 (hq.mpr z)) | (intro z; exact absurd h1 (by simpa using hq.mpr z))
  · exact h.elim
theorem hs_icmp_ge (hx : p.tables.exec = Jvm.exec) (hb : c.code = cc) {off : Int} {tgt : Nat} (hd : decode cc pc = .ok (.if_icmp .ge off, 3)) (ht : (pc : Int) + off = (tgt : Int)) (hKt : hw_S p l e R s m args below meth c Q nL ρ Pic (Kt) (tgt)) (hKf : hw_S p l e R s m args below meth c Q nL ρ Pic (Kf) (pc + 3)) : hw_S p l e R s m args below meth c Q nL ρ Pic (hc_icmp (fun a b => b ≤ a) Kt Kf) (pc) := by
  intro lo st x h
  unfold hc_icmp at h
  split at h
  · rename_i b a t
    intro hst hlo H locs ce sl ls hP hl
    have hq := hi_le (hv_oks_cons.mp hst).1 (hv_oks_cons.mp (hv_oks_cons.mp hst).2).1
    refine lv_icmp_ge hx hb hd ht (fun h1 => hKt _ _ _ (h.1 ?_) (hv_oks_cons.mp (hv_oks_cons.mp hst).2).2 hlo H locs ce sl ls hP hl) (fun h1 => hKf _ _ _ (h.2 ?_) (hv_oks_cons.mp (hv_oks_cons.mp hst).2).2 hlo H locs ce sl ls hP hl)
    · first | exact hq.mp h1 | exact fun z => h1 (hq.mpr z) | exact fun z => hq.mpr z h1 | exact Decidable.not_not.mp (fun z => h1 (hq.mpr z)) | (intro z; exact absurd h1 (by simpa using hq.mpr z))
    · first | exact hq.mp h1 | exact fun z => h1 (hq.mpr z) | exact fun z => hq.mpr z h1 | exact Decidable.not_not.mp (fun z => h1 (hq.mpr z)) | (intro z; exact absurd h1 (by simpa using hq.mpr z))
  · exact h.elim
theorem hs_icmp_gt (hx : p.tables.exec = Jvm.exec) (hb : c.code = cc) {off : Int} {tgt : Nat} (hd : decode cc pc = .ok (.if_icmp .gt off, 3)) (ht : (pc : Int) + off = (tgt : Int)) (hKt : hw_S p l e R s m args below meth c Q nL ρ Pic (Kt) (tgt)) (hKf : hw_S p l e R s m args below meth c Q nL ρ Pic (Kf) (pc + 3)) : hw_S p l e R s m args below meth c Q nL ρ Pic (hc_icmp (fun a b => b < a) Kt Kf) (pc) := by
  intro lo st x h
  unfold hc_icmp at h
  split at h
  · rename_i b a t
    intro hst hlo H locs ce sl ls hP hl
    have hq := hi_lt (hv_oks_cons.mp hst).1 (hv_oks_cons.mp (hv_oks_cons.mp hst).2).1
    refine lv_icmp_gt hx hb hd ht (fun h1 => hKt _ _ _ (h.1 ?_) (hv_oks_cons.mp (hv_oks_cons.mp hst).2).2 hlo H locs ce sl ls hP hl) (fun h1 => hKf _ _ _ (h.2 ?_) (hv_oks_cons.mp (hv_oks_cons.mp hst).2).2 hlo H locs ce sl ls hP hl)
    · first | exact hq.mp h1 | exact fun z => h1 (hq.mpr z) | exact fun z => hq.mpr z h1 | exact Decidable.not_not.mp (fun z => h1 (hq.mpr z)) | (intro z; exact absurd h1 (by simpa using hq.mpr z))
    · first | exact hq.mp h1 | exact fun z => h1 (hq.mpr z) | exact fun z => hq.mpr z h1 | exact Decidable.not_not.mp (fun z => h1 (hq.mpr z)) | (intro z; exact absurd h1 (by simpa using hq.mpr z))
  · exact h.elim
theorem hs_icmp_le (hx : p.tables.exec = Jvm.exec) (hb : c.code = cc) {off : Int} {tgt : Nat} (hd : decode cc pc = .ok (.if_icmp .le off, 3)) (ht : (pc : Int) + off = (tgt : Int)) (hKt : hw_S p l e R s m args below meth c Q nL ρ Pic (Kt) (tgt)) (hKf : hw_S p l e R s m args below meth c Q nL ρ Pic (Kf) (pc + 3)) : hw_S p l e R s m args below meth c Q nL ρ Pic (hc_icmp (fun a b => a ≤ b) Kt Kf) (pc) := by
  intro lo st x h
  unfold hc_icmp at h
  split at h
  · rename_i b a t
    intro hst hlo H locs ce sl ls hP hl
    have hq := hi_le (hv_oks_cons.mp (hv_oks_cons.mp hst).2).1 (hv_oks_cons.mp hst).1
    refine lv_icmp_le hx hb hd ht (fun h1 => hKt _ _ _ (h.1 ?_) (hv_oks_cons.mp (hv_oks_cons.mp hst).2).2 hlo H locs ce sl ls hP hl) (fun h1 => hKf _ _ _ (h.2 ?_) (hv_oks_cons.mp (hv_oks_cons.mp hst).2).2 hlo H locs ce sl ls hP hl)
    · first | exact hq.mp h1 | exact fun z => h1 (hq.mpr z) | exact fun z => hq.mpr z h1 | exact Decidable.not_not.mp (fun z => h1 (hq.mpr z)) | (intro z; exact absurd h1 (by simpa using hq.mpr z))
    · first | exact hq.mp h1 | exact fun z => h1 (hq.mpr z) | exact fun z => hq.mpr z h1 | exact Decidable.not_not.mp (fun z => h1 (hq.mpr z)) | (intro z; exact absurd h1 (by simpa using hq.mpr z))
  · exact h.elim
theorem hs_goto (hx : p.tables.exec = Jvm.exec) (hb : c.code = cc) {off : Int} {tgt : Nat} (hd : decode cc pc = .ok (.goto off, 3)) (ht : (pc : Int) + off = (tgt : Int)) (hK : hw_S p l e R s m args below meth c Q nL ρ Pic (K) (tgt)) : hw_S p l e R s m args below meth c Q nL ρ Pic (K) (pc) := by
  intro lo st x h hst hlo H locs ce sl ls hP hl
  exact lv_goto hx hb hd ht (hK _ _ _ h hst hlo H locs ce sl ls hP hl)
end HS
