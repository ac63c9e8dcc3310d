/-! commands of the heap -/
def hc_getI (ci k : Nat) (K : hv_K hm) : hv_K hm := fun lo st x => match st with
  | .inr (.inr a) :: t => hh_cls a = ci ∧ K lo (.inl (x (a + k)) :: t) x
  | _ => False
def hc_getR (ci k : Nat) (K : hv_K hm) : hv_K hm := fun lo st x => match st with
  | .inr (.inr a) :: t => hh_cls a = ci ∧ K lo (.inr (.inr (hh_rf (a + k))) :: t) x
  | _ => False
def hc_putI (ci k : Nat) (K : hv_K hm) : hv_K hm := fun lo st x => match st with
  | .inl z :: .inr (.inr a) :: t => hh_cls a = ci ∧ K lo t (hh_upd x (a + k) z)
  | _ => False
def hc_putZ (ci k : Nat) (K : hv_K hm) : hv_K hm := fun lo st x => match st with
  | .inl z :: .inr (.inr a) :: t => hh_cls a = ci ∧ (z = 0 ∨ z = 1) ∧ K lo t (hh_upd x (a + k) z)
  | _ => False
/-- an element of an array of numbers of this kind -/
def hc_xald (tg : Nat) (K : hv_K hm) : hv_K hm := fun lo st x => match st with
  | .inl i :: .inr (.inr a) :: t => (hh_tag a = tg ∧ 0 ≤ i ∧ i < hh_len a) ∧ K lo (.inl (x (a + i.toNat)) :: t) x
  | _ => False
def hc_iast (K : hv_K hm) : hv_K hm := fun lo st x => match st with
  | .inl z :: .inl i :: .inr (.inr a) :: t => (hh_tag a = 0 ∧ 0 ≤ i ∧ i < hh_len a) ∧ K lo t (hh_upd x (a + i.toNat) z)
  | _ => False
def hc_bast (K : hv_K hm) : hv_K hm := fun lo st x => match st with
  | .inl z :: .inl i :: .inr (.inr a) :: t => (hh_tag a = 1 ∧ 0 ≤ i ∧ i < hh_len a) ∧ (-128 ≤ z ∧ z < 128) ∧ K lo t (hh_upd x (a + i.toNat) z)
  | _ => False
def hc_zast (K : hv_K hm) : hv_K hm := fun lo st x => match st with
  | .inl z :: .inl i :: .inr (.inr a) :: t => (hh_tag a = 2 ∧ 0 ≤ i ∧ i < hh_len a) ∧ (z = 0 ∨ z = 1) ∧ K lo t (hh_upd x (a + i.toNat) z)
  | _ => False
def hc_aald (K : hv_K hm) : hv_K hm := fun lo st x => match st with
  | .inl i :: .inr (.inr a) :: t => (3 ≤ hh_tag a ∧ hh_tag a < 8 ∧ 0 ≤ i ∧ i < hh_len a) ∧ K lo (.inr (.inr (hh_rf (a + i.toNat))) :: t) x
  | _ => False
def hc_alen (K : hv_K hm) : hv_K hm := fun lo st x => match st with
  | .inr (.inr a) :: t => (hh_tag a < 8 ∧ hh_len a < 2147483648) ∧ K lo (.inl (hh_len a : Nat) :: t) x
  | _ => False
def hh_cpy (x : hm) (b sp a dp n : Nat) : hm := fun q => if a + dp ≤ q ∧ q < a + dp + n then x (b + sp + (q - (a + dp))) else x q
/-- System.arraycopy between int arrays -/
def hc_copy (K : hv_K hm) : hv_K hm := fun lo st x => match st with
  | .inl n :: .inl dp :: .inr (.inr a) :: .inl sp :: .inr (.inr b) :: t => (hh_tag a = 0 ∧ hh_tag b = 0 ∧ 0 ≤ sp ∧ 0 ≤ dp ∧ 0 ≤ n ∧ sp + n ≤ hh_len b ∧ dp + n ≤ hh_len a ∧ hv_w t ≤ 8) ∧ K lo t (hh_cpy x b sp.toNat a dp.toNat n.toNat)
  | _ => False
/-- a static field that holds an array -/
def hc_gets (q : Nat) (K : hv_K hm) : hv_K hm := fun lo st x => K lo (.inr (.inr q) :: st) x
def hc_getsI (z : Int) (K : hv_K hm) : hv_K hm := fun lo st x => K lo (.inl z :: st) x
def hc_sald (K : hv_K hm) : hv_K hm := fun lo st x => match st with
  | .inl i :: .inr (.inr a) :: t => (0 ≤ i ∧ i < (hh_sl a).length) ∧ K lo (.inl ((hh_sl a).getD i.toNat 0) :: t) x
  | _ => False
/-- a text constant -/
def hc_ldcs (k : Nat) (K : hv_K hm) : hv_K hm := fun lo st x => K lo (.inr (.inr (hh_sid k)) :: st) x
def hh_isstr (a : Nat) : Prop := ∃ k, k < hh_strN ∧ a = hh_sid k
def hc_sval (K : hv_K hm) : hv_K hm := fun lo st x => match st with
  | .inr (.inr a) :: t => hh_isstr a ∧ K lo (.inr (.inr (a + 5)) :: t) x
  | _ => False
def hc_scod (K : hv_K hm) : hv_K hm := fun lo st x => match st with
  | .inr (.inr a) :: t => hh_isstr a ∧ K lo (.inl 0 :: t) x
  | _ => False
def hc_slen (K : hv_K hm) : hv_K hm := fun lo st x => match st with
  | .inr (.inr b) :: t => ∃ k, (k < hh_strN ∧ b = hh_sid k + 5) ∧ K lo (.inl ((hh_strB k).length : Nat) :: t) x
  | _ => False
def hc_sbald (K : hv_K hm) : hv_K hm := fun lo st x => match st with
  | .inl i :: .inr (.inr b) :: t => ∃ k, (k < hh_strN ∧ b = hh_sid k + 5 ∧ 0 ≤ i ∧ i < (hh_strB k).length) ∧ K lo (.inl ((hh_strB k).getD i.toNat 0) :: t) x
  | _ => False
section HH
variable {p : Program} {l : Launch} {e : Env} {R : Room} {s : State} {m : MethodId} {args : Array Value} {below : List Frame} {meth : Method} {c : Code} {Q : State → Prop} {nL d : Nat} {ρ : Nat → Nat} {D : va_G} {kA : Nat → ClassId} {A : Nat → Prop} {ce0 sl0 : Nat} {cc : ByteArray} {own : String} {pc : Nat} {K Kt Kf : hv_K hm}
theorem hi_vp {i : Int} {n : Nat} (h : hv_I i) : vp_in (Int32.ofInt i) n ↔ 0 ≤ i ∧ i < n := by rw [vp_in_iff, hi_toInt h]
theorem hi_clamp {i : Int} (h : hv_I i) : (Int32.ofInt i).toNatClampNeg = i.toNat := by
  show (Int32.ofInt i).toInt.toNat = _
  rw [hi_toInt h]
theorem hh_fa_at {x : hm} {b n : Nat} {i : Int} (hi : hv_I i) (h : i.toNat < n) : hh_fa x b n (Int32.ofInt i).toNatClampNeg = Int32.ofInt (x (b + i.toNat)) := by
  rw [hi_clamp hi]
  exact if_pos h
theorem hh_fa_upd {x : hm} {b n : Nat} {i z : Int} (hi : hv_I i) (h : i.toNat < n) : upd (hh_fa x b n) (Int32.ofInt i).toNatClampNeg (Int32.ofInt z) = hh_fa (hh_upd x (b + i.toNat) z) b n := by
  rw [hi_clamp hi]
  funext j
  by_cases hj : j = i.toNat
  · subst hj
    simp [upd, hh_fa, h, hh_upd]
  · have h2 : b + j ≠ b + i.toNat := by omega
    simp [upd, hh_fa, hj, hh_upd]

theorem hs_getI (X : hx_C p R s m args meth c own cc nL d D ρ kA A ce0 sl0) {C : String} {F : u_T} {N ci k index : Nat} {ty0 : Nat → FieldType} (hcf : hh_CF ci C F N ty0) (hk : k < N) (hlk2 : Cond.fieldLink own index (F k).1 (F k).2.1 (F k).2.2.1 ∈ hh_ws) (hfr : hh_fref ci k = false) (hd : decode cc pc = .ok (.getfield index, 3)) (hK : hw_S p l e R s m args below meth c Q nL ρ (hp_P D ρ kA A s.heap ce0 sl0) (K) (pc + 3)) : hw_S p l e R s m args below meth c Q nL ρ (hp_P D ρ kA A s.heap ce0 sl0) (hc_getI ci k K) (pc) := by
  obtain ⟨hx, hb, hml, hown, hts, hroom, hcs, ⟨hK1, hnw, hst1, hcmp, hsio, hstr, hldc⟩, hD, hlk⟩ := id X
  intro lo st x h
  unfold hc_getI at h
  split at h
  · rename_i a t
    intro hst hlo H locs ce sl ls hP0 hl
    obtain ⟨hP, hS, hI, rfl, rfl⟩ := id hP0
    obtain ⟨g1, g2, g3, g4, g5, g6⟩ := hcf
    obtain ⟨q, hq, hqf⟩ := hh_of_cls h.1 g5
    rw [← g6] at hq hqf
    refine va_get (D := D) (ci := ci) (v := .int (Int32.ofInt (x (a + k)))) (C := C) (T := F) (N := N) hx hb hts g2 hown hK1 hP q (by rw [hh_W_at hq]; unfold hh_e; rw [if_pos rfl]) g1 k hk (hts _ hlk2) (fun _ h9 => h9) ?_ hd ?_
    · rw [List.getElem?_map, List.getElem?_range hk]
      simp [hh_fv, hqf k hk, hfr]
    · exact hK lo (.inl (x (a + k)) :: t) x h.2 (hv_oks_cons.mpr ⟨hI _, (hv_oks_cons.mp hst).2⟩) hlo H locs ce sl ls hP0 hl
  · exact h.elim
theorem hs_getIN (X : hx_C p R s m args meth c own cc nL d D ρ kA A ce0 sl0) {C : String} {F : u_T} {N ci k index : Nat} {ty0 : Nat → FieldType} (hcf : hh_CF ci C F N ty0) (hk : k < N) {host : String} (hlk2 : Cond.fieldLinkNest own index (F k).1 (F k).2.1 (F k).2.2.1 host ∈ hh_nw) (hfr : hh_fref ci k = false) (hd : decode cc pc = .ok (.getfield index, 3)) (hK : hw_S p l e R s m args below meth c Q nL ρ (hp_P D ρ kA A s.heap ce0 sl0) (K) (pc + 3)) : hw_S p l e R s m args below meth c Q nL ρ (hp_P D ρ kA A s.heap ce0 sl0) (hc_getI ci k K) (pc) := by
  obtain ⟨hx, hb, hml, hown, hts, hroom, hcs, ⟨hK1, hnw, hst1, hcmp, hsio, hstr, hldc⟩, hD, hlk⟩ := id X
  intro lo st x h
  unfold hc_getI at h
  split at h
  · rename_i a t
    intro hst hlo H locs ce sl ls hP0 hl
    obtain ⟨hP, hS, hI, rfl, rfl⟩ := id hP0
    obtain ⟨g1, g2, g3, g4, g5, g6⟩ := hcf
    obtain ⟨q, hq, hqf⟩ := hh_of_cls h.1 g5
    rw [← g6] at hq hqf
    refine va_getN (D := D) (ci := ci) (v := .int (Int32.ofInt (x (a + k)))) (C := C) (T := F) (N := N) hx hb hts g2 hown hK1 hP q (by rw [hh_W_at hq]; unfold hh_e; rw [if_pos rfl]) g1 k hk (va_Nw.use rfl (hnw _ hlk2)) (fun _ h9 => h9) ?_ hd ?_
    · rw [List.getElem?_map, List.getElem?_range hk]
      simp [hh_fv, hqf k hk, hfr]
    · exact hK lo (.inl (x (a + k)) :: t) x h.2 (hv_oks_cons.mpr ⟨hI _, (hv_oks_cons.mp hst).2⟩) hlo H locs ce sl ls hP0 hl
  · exact h.elim
theorem hs_getR (X : hx_C p R s m args meth c own cc nL d D ρ kA A ce0 sl0) {C : String} {F : u_T} {N ci k index : Nat} {ty0 : Nat → FieldType} (hcf : hh_CF ci C F N ty0) (hk : k < N) (hlk2 : Cond.fieldLink own index (F k).1 (F k).2.1 (F k).2.2.1 ∈ hh_ws) (hfr : hh_fref ci k = true) (hd : decode cc pc = .ok (.getfield index, 3)) (hK : hw_S p l e R s m args below meth c Q nL ρ (hp_P D ρ kA A s.heap ce0 sl0) (K) (pc + 3)) : hw_S p l e R s m args below meth c Q nL ρ (hp_P D ρ kA A s.heap ce0 sl0) (hc_getR ci k K) (pc) := by
  obtain ⟨hx, hb, hml, hown, hts, hroom, hcs, ⟨hK1, hnw, hst1, hcmp, hsio, hstr, hldc⟩, hD, hlk⟩ := id X
  intro lo st x h
  unfold hc_getR at h
  split at h
  · rename_i a t
    intro hst hlo H locs ce sl ls hP0 hl
    obtain ⟨hP, hS, hI, rfl, rfl⟩ := id hP0
    obtain ⟨g1, g2, g3, g4, g5, g6⟩ := hcf
    obtain ⟨q, hq, hqf⟩ := hh_of_cls h.1 g5
    rw [← g6] at hq hqf
    refine va_get (D := D) (ci := ci) (v := .ref (ρ (hh_rf (a + k)))) (C := C) (T := F) (N := N) hx hb hts g2 hown hK1 hP q (by rw [hh_W_at hq]; unfold hh_e; rw [if_pos rfl]) g1 k hk (hts _ hlk2) (fun _ h9 => h9) ?_ hd ?_
    · rw [List.getElem?_map, List.getElem?_range hk]
      simp [hh_fv, hqf k hk, hfr]
    · exact hK lo (.inr (.inr (hh_rf (a + k))) :: t) x h.2 (hv_oks_cons.mpr ⟨trivial, (hv_oks_cons.mp hst).2⟩) hlo H locs ce sl ls hP0 hl
  · exact h.elim
theorem hs_getRN (X : hx_C p R s m args meth c own cc nL d D ρ kA A ce0 sl0) {C : String} {F : u_T} {N ci k index : Nat} {ty0 : Nat → FieldType} (hcf : hh_CF ci C F N ty0) (hk : k < N) {host : String} (hlk2 : Cond.fieldLinkNest own index (F k).1 (F k).2.1 (F k).2.2.1 host ∈ hh_nw) (hfr : hh_fref ci k = true) (hd : decode cc pc = .ok (.getfield index, 3)) (hK : hw_S p l e R s m args below meth c Q nL ρ (hp_P D ρ kA A s.heap ce0 sl0) (K) (pc + 3)) : hw_S p l e R s m args below meth c Q nL ρ (hp_P D ρ kA A s.heap ce0 sl0) (hc_getR ci k K) (pc) := by
  obtain ⟨hx, hb, hml, hown, hts, hroom, hcs, ⟨hK1, hnw, hst1, hcmp, hsio, hstr, hldc⟩, hD, hlk⟩ := id X
  intro lo st x h
  unfold hc_getR at h
  split at h
  · rename_i a t
    intro hst hlo H locs ce sl ls hP0 hl
    obtain ⟨hP, hS, hI, rfl, rfl⟩ := id hP0
    obtain ⟨g1, g2, g3, g4, g5, g6⟩ := hcf
    obtain ⟨q, hq, hqf⟩ := hh_of_cls h.1 g5
    rw [← g6] at hq hqf
    refine va_getN (D := D) (ci := ci) (v := .ref (ρ (hh_rf (a + k)))) (C := C) (T := F) (N := N) hx hb hts g2 hown hK1 hP q (by rw [hh_W_at hq]; unfold hh_e; rw [if_pos rfl]) g1 k hk (va_Nw.use rfl (hnw _ hlk2)) (fun _ h9 => h9) ?_ hd ?_
    · rw [List.getElem?_map, List.getElem?_range hk]
      simp [hh_fv, hqf k hk, hfr]
    · exact hK lo (.inr (.inr (hh_rf (a + k))) :: t) x h.2 (hv_oks_cons.mpr ⟨trivial, (hv_oks_cons.mp hst).2⟩) hlo H locs ce sl ls hP0 hl
  · exact h.elim
def va_E_r (q : Nat × List Value) : va_E := .inr q
theorem hh_put_e {x : hm} {a k : Nat} {z : Int} {N ci : Nat} (hk : k < N) (hr : hh_isr (a + k) = false) : (va_E_r (ci, ((List.range N).map (fun k => hh_fv ρ x (a + k))).set k (.int (Int32.ofInt z)))) = hh_e ρ kA (hh_upd x (a + k) z) (a, 0, ci, N) := by
  unfold hh_e va_E_r
  rw [if_pos rfl]
  congr 2
  apply List.ext_getElem?
  intro i
  by_cases hi : i = k
  · subst hi
    rw [List.getElem?_set_self (by simpa using hk), List.getElem?_map, List.getElem?_range hk]
    simp [hh_fv, hr, hh_upd]
  · rw [List.getElem?_set_ne (Ne.symm hi), List.getElem?_map, List.getElem?_map]
    by_cases hin : i < N
    · rw [List.getElem?_range hin]
      have h2 : a + i ≠ a + k := by omega
      simp [hh_fv, hh_upd, hi]
    · rw [List.getElem?_eq_none (by simpa using hin)]
      rfl
theorem hs_putI (X : hx_C p R s m args meth c own cc nL d D ρ kA A ce0 sl0) {C : String} {F : u_T} {N ci k index : Nat} {ty0 : Nat → FieldType} (hcf : hh_CF ci C F N ty0) (hk : k < N) (hlk2 : Cond.fieldLink own index (F k).1 (F k).2.1 (F k).2.2.1 ∈ hh_ws) (hfr : hh_fref ci k = false) (hfin : (F k).2.2.2 = false) (hty : ty0 k = .int) (hd : decode cc pc = .ok (.putfield index, 3)) (hK : hw_S p l e R s m args below meth c Q nL ρ (hp_P D ρ kA A s.heap ce0 sl0) (K) (pc + 3)) : hw_S p l e R s m args below meth c Q nL ρ (hp_P D ρ kA A s.heap ce0 sl0) (hc_putI ci k K) (pc) := by
  obtain ⟨hx, hb, hml, hown, hts, hroom, hcs, ⟨hK1, hnw, hst1, hcmp, hsio, hstr, hldc⟩, hD, hlk⟩ := id X
  intro lo st x h
  unfold hc_putI at h
  split at h
  · rename_i z a t
    intro hst hlo H locs ce sl ls hP0 hl
    obtain ⟨hP, hS, hI, rfl, rfl⟩ := id hP0
    obtain ⟨g1, g2, g3, g4, g5, g6⟩ := hcf
    obtain ⟨q, hq, hqf⟩ := hh_of_cls h.1 g5
    rw [← g6] at hq hqf
    refine va_put (D := D) (ci := ci) (v := .int (Int32.ofInt z)) (ty := .int) (C := C) (T := F) (N := N) hx hb hts g2 ty0 g3 g4 hown hK1 hP (hD x) hS q (by rw [hh_W_at hq]; unfold hh_e; rw [if_pos rfl]) g1 k hk (hts _ hlk2) (fun _ h9 => h9) hfin (by rw [g3 k hk, hty]) rfl rfl (by simpa using hk) hd (fun H1 locs1 hP1 hD1 hS1 => ?_)
    have hP1 := Eq.mp (congrArg (fun w => va_P D vwCl w H1) (hh_W_set (ρ := ρ) (kA := kA) (mem := x) (mem' := hh_upd x (a + k) z) hq (hh_put_e (ρ := ρ) (kA := kA) hk ((hqf k hk).trans hfr)) (fun b hb2 => hh_upd_ne (hb2 k hk)))) hP1
    refine hK lo t (hh_upd x (a + k) z) h.2 (hv_oks_cons.mp (hv_oks_cons.mp hst).2).2 hlo H1 locs1 ce sl ls ⟨hP1, hS1, fun b => ?_, rfl, rfl⟩ hl
    unfold hh_upd
    split
    · exact (hv_oks_cons.mp hst).1
    · exact hI b
  · exact h.elim
theorem hs_putIN (X : hx_C p R s m args meth c own cc nL d D ρ kA A ce0 sl0) {C : String} {F : u_T} {N ci k index : Nat} {ty0 : Nat → FieldType} (hcf : hh_CF ci C F N ty0) (hk : k < N) {host : String} (hlk2 : Cond.fieldLinkNest own index (F k).1 (F k).2.1 (F k).2.2.1 host ∈ hh_nw) (hfr : hh_fref ci k = false) (hfin : (F k).2.2.2 = false) (hty : ty0 k = .int) (hd : decode cc pc = .ok (.putfield index, 3)) (hK : hw_S p l e R s m args below meth c Q nL ρ (hp_P D ρ kA A s.heap ce0 sl0) (K) (pc + 3)) : hw_S p l e R s m args below meth c Q nL ρ (hp_P D ρ kA A s.heap ce0 sl0) (hc_putI ci k K) (pc) := by
  obtain ⟨hx, hb, hml, hown, hts, hroom, hcs, ⟨hK1, hnw, hst1, hcmp, hsio, hstr, hldc⟩, hD, hlk⟩ := id X
  intro lo st x h
  unfold hc_putI at h
  split at h
  · rename_i z a t
    intro hst hlo H locs ce sl ls hP0 hl
    obtain ⟨hP, hS, hI, rfl, rfl⟩ := id hP0
    obtain ⟨g1, g2, g3, g4, g5, g6⟩ := hcf
    obtain ⟨q, hq, hqf⟩ := hh_of_cls h.1 g5
    rw [← g6] at hq hqf
    refine va_putN (D := D) (ci := ci) (v := .int (Int32.ofInt z)) (ty := .int) (C := C) (T := F) (N := N) hx hb hts g2 ty0 g3 g4 hown hK1 hP (hD x) hS q (by rw [hh_W_at hq]; unfold hh_e; rw [if_pos rfl]) g1 k hk (va_Nw.use rfl (hnw _ hlk2)) (fun _ h9 => h9) hfin (by rw [g3 k hk, hty]) rfl rfl (by simpa using hk) hd (fun H1 locs1 hP1 hD1 hS1 => ?_)
    have hP1 := Eq.mp (congrArg (fun w => va_P D vwCl w H1) (hh_W_set (ρ := ρ) (kA := kA) (mem := x) (mem' := hh_upd x (a + k) z) hq (hh_put_e (ρ := ρ) (kA := kA) hk ((hqf k hk).trans hfr)) (fun b hb2 => hh_upd_ne (hb2 k hk)))) hP1
    refine hK lo t (hh_upd x (a + k) z) h.2 (hv_oks_cons.mp (hv_oks_cons.mp hst).2).2 hlo H1 locs1 ce sl ls ⟨hP1, hS1, fun b => ?_, rfl, rfl⟩ hl
    unfold hh_upd
    split
    · exact (hv_oks_cons.mp hst).1
    · exact hI b
  · exact h.elim
theorem hs_putZ (X : hx_C p R s m args meth c own cc nL d D ρ kA A ce0 sl0) {C : String} {F : u_T} {N ci k index : Nat} {ty0 : Nat → FieldType} (hcf : hh_CF ci C F N ty0) (hk : k < N) (hlk2 : Cond.fieldLink own index (F k).1 (F k).2.1 (F k).2.2.1 ∈ hh_ws) (hfr : hh_fref ci k = false) (hfin : (F k).2.2.2 = false) (hty : ty0 k = .boolean) (hd : decode cc pc = .ok (.putfield index, 3)) (hK : hw_S p l e R s m args below meth c Q nL ρ (hp_P D ρ kA A s.heap ce0 sl0) (K) (pc + 3)) : hw_S p l e R s m args below meth c Q nL ρ (hp_P D ρ kA A s.heap ce0 sl0) (hc_putZ ci k K) (pc) := by
  obtain ⟨hx, hb, hml, hown, hts, hroom, hcs, ⟨hK1, hnw, hst1, hcmp, hsio, hstr, hldc⟩, hD, hlk⟩ := id X
  intro lo st x h
  unfold hc_putZ at h
  split at h
  · rename_i z a t
    intro hst hlo H locs ce sl ls hP0 hl
    obtain ⟨hP, hS, hI, rfl, rfl⟩ := id hP0
    obtain ⟨g1, g2, g3, g4, g5, g6⟩ := hcf
    obtain ⟨q, hq, hqf⟩ := hh_of_cls h.1 g5
    rw [← g6] at hq hqf
    refine va_put (D := D) (ci := ci) (v := .int (Int32.ofInt z)) (ty := .boolean) (C := C) (T := F) (N := N) hx hb hts g2 ty0 g3 g4 hown hK1 hP (hD x) hS q (by rw [hh_W_at hq]; unfold hh_e; rw [if_pos rfl]) g1 k hk (hts _ hlk2) (fun _ h9 => h9) hfin (by rw [g3 k hk, hty]) (by rcases h.2.1 with rfl | rfl <;> decide) (by rcases h.2.1 with rfl | rfl <;> decide) (by simpa using hk) hd (fun H1 locs1 hP1 hD1 hS1 => ?_)
    have hP1 := Eq.mp (congrArg (fun w => va_P D vwCl w H1) (hh_W_set (ρ := ρ) (kA := kA) (mem := x) (mem' := hh_upd x (a + k) z) hq (hh_put_e (ρ := ρ) (kA := kA) hk ((hqf k hk).trans hfr)) (fun b hb2 => hh_upd_ne (hb2 k hk)))) hP1
    refine hK lo t (hh_upd x (a + k) z) h.2.2 (hv_oks_cons.mp (hv_oks_cons.mp hst).2).2 hlo H1 locs1 ce sl ls ⟨hP1, hS1, fun b => ?_, rfl, rfl⟩ hl
    unfold hh_upd
    split
    · exact (hv_oks_cons.mp hst).1
    · exact hI b
  · exact h.elim
theorem hs_putZN (X : hx_C p R s m args meth c own cc nL d D ρ kA A ce0 sl0) {C : String} {F : u_T} {N ci k index : Nat} {ty0 : Nat → FieldType} (hcf : hh_CF ci C F N ty0) (hk : k < N) {host : String} (hlk2 : Cond.fieldLinkNest own index (F k).1 (F k).2.1 (F k).2.2.1 host ∈ hh_nw) (hfr : hh_fref ci k = false) (hfin : (F k).2.2.2 = false) (hty : ty0 k = .boolean) (hd : decode cc pc = .ok (.putfield index, 3)) (hK : hw_S p l e R s m args below meth c Q nL ρ (hp_P D ρ kA A s.heap ce0 sl0) (K) (pc + 3)) : hw_S p l e R s m args below meth c Q nL ρ (hp_P D ρ kA A s.heap ce0 sl0) (hc_putZ ci k K) (pc) := by
  obtain ⟨hx, hb, hml, hown, hts, hroom, hcs, ⟨hK1, hnw, hst1, hcmp, hsio, hstr, hldc⟩, hD, hlk⟩ := id X
  intro lo st x h
  unfold hc_putZ at h
  split at h
  · rename_i z a t
    intro hst hlo H locs ce sl ls hP0 hl
    obtain ⟨hP, hS, hI, rfl, rfl⟩ := id hP0
    obtain ⟨g1, g2, g3, g4, g5, g6⟩ := hcf
    obtain ⟨q, hq, hqf⟩ := hh_of_cls h.1 g5
    rw [← g6] at hq hqf
    refine va_putN (D := D) (ci := ci) (v := .int (Int32.ofInt z)) (ty := .boolean) (C := C) (T := F) (N := N) hx hb hts g2 ty0 g3 g4 hown hK1 hP (hD x) hS q (by rw [hh_W_at hq]; unfold hh_e; rw [if_pos rfl]) g1 k hk (va_Nw.use rfl (hnw _ hlk2)) (fun _ h9 => h9) hfin (by rw [g3 k hk, hty]) (by rcases h.2.1 with rfl | rfl <;> decide) (by rcases h.2.1 with rfl | rfl <;> decide) (by simpa using hk) hd (fun H1 locs1 hP1 hD1 hS1 => ?_)
    have hP1 := Eq.mp (congrArg (fun w => va_P D vwCl w H1) (hh_W_set (ρ := ρ) (kA := kA) (mem := x) (mem' := hh_upd x (a + k) z) hq (hh_put_e (ρ := ρ) (kA := kA) hk ((hqf k hk).trans hfr)) (fun b hb2 => hh_upd_ne (hb2 k hk)))) hP1
    refine hK lo t (hh_upd x (a + k) z) h.2.2 (hv_oks_cons.mp (hv_oks_cons.mp hst).2).2 hlo H1 locs1 ce sl ls ⟨hP1, hS1, fun b => ?_, rfl, rfl⟩ hl
    unfold hh_upd
    split
    · exact (hv_oks_cons.mp hst).1
    · exact hI b
  · exact h.elim
theorem hi_b {z : Int} (h : -128 ≤ z ∧ z < 128) : (Int32.ofInt z).toInt8.toInt32 = Int32.ofInt z := by
  have hz : hv_I z := ⟨by omega, by omega⟩
  rw [← Int32.toInt_inj, hi_toInt hz]
  rw [Int8.toInt_toInt32, Int32.toInt_toInt8, hi_toInt hz]
  have h1 := h.1
  have h2 := h.2
  exact Int.bmod_eq_of_le (by omega) (by omega)
theorem hs_iald (X : hx_C p R s m args meth c own cc nL d D ρ kA A ce0 sl0) (hd : decode cc pc = .ok (.iaload, 1)) (hK : hw_S p l e R s m args below meth c Q nL ρ (hp_P D ρ kA A s.heap ce0 sl0) (K) (pc + 1)) : hw_S p l e R s m args below meth c Q nL ρ (hp_P D ρ kA A s.heap ce0 sl0) (hc_xald 0 K) (pc) := by
  obtain ⟨hx, hb, hml, hown, hts, hroom, hcs, ⟨hK1, hnw, hst1, hcmp, hsio, hstr, hldc⟩, hD, hlk⟩ := id X
  intro lo st x h
  unfold hc_xald at h
  split at h
  · rename_i i a t
    intro hst hlo H locs ce sl ls hP0 hl
    obtain ⟨hP, hS, hI, rfl, rfl⟩ := id hP0
    obtain ⟨q, hq⟩ := hh_of_tag h.1.1 (by decide)
    obtain ⟨t0, ht0⟩ := hh_tys_at (kA := kA) hq
    have hi := (hv_oks_cons.mp hst).1
    have hin : i.toNat < hh_len a := by have := h.1.2; omega
    refine va_iald hx hb hK1 hP q t0 (n := hh_len a) (f := hh_fa x a (hh_len a)) (by rw [hh_W_at hq]; rfl) ht0 ((hi_vp hi).mpr h.1.2) hd ?_
    rw [hh_fa_at hi hin]
    exact hK _ _ _ h.2 (hv_oks_cons.mpr ⟨hI _, (hv_oks_cons.mp (hv_oks_cons.mp hst).2).2⟩) hlo H locs ce sl ls hP0 hl
  · exact h.elim
theorem hs_bald (X : hx_C p R s m args meth c own cc nL d D ρ kA A ce0 sl0) (hd : decode cc pc = .ok (.baload, 1)) (hK : hw_S p l e R s m args below meth c Q nL ρ (hp_P D ρ kA A s.heap ce0 sl0) (K) (pc + 1)) : hw_S p l e R s m args below meth c Q nL ρ (hp_P D ρ kA A s.heap ce0 sl0) (hc_xald 1 K) (pc) := by
  obtain ⟨hx, hb, hml, hown, hts, hroom, hcs, ⟨hK1, hnw, hst1, hcmp, hsio, hstr, hldc⟩, hD, hlk⟩ := id X
  intro lo st x h
  unfold hc_xald at h
  split at h
  · rename_i i a t
    intro hst hlo H locs ce sl ls hP0 hl
    obtain ⟨hP, hS, hI, rfl, rfl⟩ := id hP0
    obtain ⟨q, hq⟩ := hh_of_tag h.1.1 (by decide)
    obtain ⟨t0, ht0⟩ := hh_tys_at (kA := kA) hq
    have hi := (hv_oks_cons.mp hst).1
    have hin : i.toNat < hh_len a := by have := h.1.2; omega
    refine va_bald hx hb hK1 hP q t0 (n := hh_len a) (f := hh_fa x a (hh_len a)) (by rw [hh_W_at hq]; rfl) ht0 ((hi_vp hi).mpr h.1.2) hd ?_
    rw [hh_fa_at hi hin]
    exact hK _ _ _ h.2 (hv_oks_cons.mpr ⟨hI _, (hv_oks_cons.mp (hv_oks_cons.mp hst).2).2⟩) hlo H locs ce sl ls hP0 hl
  · exact h.elim
theorem hs_zald (X : hx_C p R s m args meth c own cc nL d D ρ kA A ce0 sl0) (hd : decode cc pc = .ok (.baload, 1)) (hK : hw_S p l e R s m args below meth c Q nL ρ (hp_P D ρ kA A s.heap ce0 sl0) (K) (pc + 1)) : hw_S p l e R s m args below meth c Q nL ρ (hp_P D ρ kA A s.heap ce0 sl0) (hc_xald 2 K) (pc) := by
  obtain ⟨hx, hb, hml, hown, hts, hroom, hcs, ⟨hK1, hnw, hst1, hcmp, hsio, hstr, hldc⟩, hD, hlk⟩ := id X
  intro lo st x h
  unfold hc_xald at h
  split at h
  · rename_i i a t
    intro hst hlo H locs ce sl ls hP0 hl
    obtain ⟨hP, hS, hI, rfl, rfl⟩ := id hP0
    obtain ⟨q, hq⟩ := hh_of_tag h.1.1 (by decide)
    obtain ⟨t0, ht0⟩ := hh_tys_at (kA := kA) hq
    have hi := (hv_oks_cons.mp hst).1
    have hin : i.toNat < hh_len a := by have := h.1.2; omega
    refine va_zald hx hb hK1 hP q t0 (n := hh_len a) (f := hh_fa x a (hh_len a)) (by rw [hh_W_at hq]; rfl) ht0 ((hi_vp hi).mpr h.1.2) hd ?_
    rw [hh_fa_at hi hin]
    exact hK _ _ _ h.2 (hv_oks_cons.mpr ⟨hI _, (hv_oks_cons.mp (hv_oks_cons.mp hst).2).2⟩) hlo H locs ce sl ls hP0 hl
  · exact h.elim
theorem hs_iast (X : hx_C p R s m args meth c own cc nL d D ρ kA A ce0 sl0) (hd : decode cc pc = .ok (.iastore, 1)) (hK : hw_S p l e R s m args below meth c Q nL ρ (hp_P D ρ kA A s.heap ce0 sl0) (K) (pc + 1)) : hw_S p l e R s m args below meth c Q nL ρ (hp_P D ρ kA A s.heap ce0 sl0) (hc_iast K) (pc) := by
  obtain ⟨hx, hb, hml, hown, hts, hroom, hcs, ⟨hK1, hnw, hst1, hcmp, hsio, hstr, hldc⟩, hD, hlk⟩ := id X
  intro lo st x h
  unfold hc_iast at h
  split at h
  · rename_i z i a t
    intro hst hlo H locs ce sl ls hP0 hl
    obtain ⟨hP, hS, hI, rfl, rfl⟩ := id hP0
    obtain ⟨q, hq⟩ := hh_of_tag h.1.1 (by decide)
    obtain ⟨t0, ht0⟩ := hh_tys_at (kA := kA) hq
    have hi := (hv_oks_cons.mp (hv_oks_cons.mp hst).2).1
    have hin : i.toNat < hh_len a := by have := h.1.2; omega
    refine va_iast hx hb hK1 hP (hD x) hS q t0 (n := hh_len a) (f := hh_fa x a (hh_len a)) (by rw [hh_W_at hq]; rfl) ht0 ((hi_vp hi).mpr h.1.2) hd (fun H1 locs1 hP1 hD1 hS1 => ?_)
    rw [hh_fa_upd hi hin] at hP1
    have hP1 := Eq.mp (congrArg (fun w => va_P D vwCl w H1) (hh_W_set (ρ := ρ) (kA := kA) (mem := x) (mem' := hh_upd x (a + i.toNat) z) hq rfl (fun b hb2 => hh_upd_ne (hb2 _ hin)))) hP1
    refine hK lo t _ h.2 (hv_oks_cons.mp (hv_oks_cons.mp (hv_oks_cons.mp hst).2).2).2 hlo H1 locs1 ce sl ls ⟨hP1, hS1, fun b => ?_, rfl, rfl⟩ hl
    unfold hh_upd
    split
    · exact (hv_oks_cons.mp hst).1
    · exact hI b
  · exact h.elim
theorem hs_bast (X : hx_C p R s m args meth c own cc nL d D ρ kA A ce0 sl0) (hd : decode cc pc = .ok (.bastore, 1)) (hK : hw_S p l e R s m args below meth c Q nL ρ (hp_P D ρ kA A s.heap ce0 sl0) (K) (pc + 1)) : hw_S p l e R s m args below meth c Q nL ρ (hp_P D ρ kA A s.heap ce0 sl0) (hc_bast K) (pc) := by
  obtain ⟨hx, hb, hml, hown, hts, hroom, hcs, ⟨hK1, hnw, hst1, hcmp, hsio, hstr, hldc⟩, hD, hlk⟩ := id X
  intro lo st x h
  unfold hc_bast at h
  split at h
  · rename_i z i a t
    intro hst hlo H locs ce sl ls hP0 hl
    obtain ⟨hP, hS, hI, rfl, rfl⟩ := id hP0
    obtain ⟨q, hq⟩ := hh_of_tag h.1.1 (by decide)
    obtain ⟨t0, ht0⟩ := hh_tys_at (kA := kA) hq
    have hi := (hv_oks_cons.mp (hv_oks_cons.mp hst).2).1
    have hin : i.toNat < hh_len a := by have := h.1.2; omega
    refine va_bast hx hb hK1 hP (hD x) hS q t0 (n := hh_len a) (f := hh_fa x a (hh_len a)) (by rw [hh_W_at hq]; rfl) ht0 ((hi_vp hi).mpr h.1.2) hd (fun H1 locs1 hP1 hD1 hS1 => ?_)
    rw [show vp_nar .byte (Int32.ofInt z) = Int32.ofInt z from (by have := h.2.1; rw [vp_nar_byte]; exact hi_b h.2.1)] at hP1
    rw [hh_fa_upd hi hin] at hP1
    have hP1 := Eq.mp (congrArg (fun w => va_P D vwCl w H1) (hh_W_set (ρ := ρ) (kA := kA) (mem := x) (mem' := hh_upd x (a + i.toNat) z) hq rfl (fun b hb2 => hh_upd_ne (hb2 _ hin)))) hP1
    refine hK lo t _ h.2.2 (hv_oks_cons.mp (hv_oks_cons.mp (hv_oks_cons.mp hst).2).2).2 hlo H1 locs1 ce sl ls ⟨hP1, hS1, fun b => ?_, rfl, rfl⟩ hl
    unfold hh_upd
    split
    · exact (hv_oks_cons.mp hst).1
    · exact hI b
  · exact h.elim
theorem hs_zast (X : hx_C p R s m args meth c own cc nL d D ρ kA A ce0 sl0) (hd : decode cc pc = .ok (.bastore, 1)) (hK : hw_S p l e R s m args below meth c Q nL ρ (hp_P D ρ kA A s.heap ce0 sl0) (K) (pc + 1)) : hw_S p l e R s m args below meth c Q nL ρ (hp_P D ρ kA A s.heap ce0 sl0) (hc_zast K) (pc) := by
  obtain ⟨hx, hb, hml, hown, hts, hroom, hcs, ⟨hK1, hnw, hst1, hcmp, hsio, hstr, hldc⟩, hD, hlk⟩ := id X
  intro lo st x h
  unfold hc_zast at h
  split at h
  · rename_i z i a t
    intro hst hlo H locs ce sl ls hP0 hl
    obtain ⟨hP, hS, hI, rfl, rfl⟩ := id hP0
    obtain ⟨q, hq⟩ := hh_of_tag h.1.1 (by decide)
    obtain ⟨t0, ht0⟩ := hh_tys_at (kA := kA) hq
    have hi := (hv_oks_cons.mp (hv_oks_cons.mp hst).2).1
    have hin : i.toNat < hh_len a := by have := h.1.2; omega
    refine va_zast hx hb hK1 hP (hD x) hS q t0 (n := hh_len a) (f := hh_fa x a (hh_len a)) (by rw [hh_W_at hq]; rfl) ht0 ((hi_vp hi).mpr h.1.2) hd (fun H1 locs1 hP1 hD1 hS1 => ?_)
    rw [show vp_nar .boolean (Int32.ofInt z) = Int32.ofInt z from (by rcases h.2.1 with rfl | rfl <;> decide)] at hP1
    rw [hh_fa_upd hi hin] at hP1
    have hP1 := Eq.mp (congrArg (fun w => va_P D vwCl w H1) (hh_W_set (ρ := ρ) (kA := kA) (mem := x) (mem' := hh_upd x (a + i.toNat) z) hq rfl (fun b hb2 => hh_upd_ne (hb2 _ hin)))) hP1
    refine hK lo t _ h.2.2 (hv_oks_cons.mp (hv_oks_cons.mp (hv_oks_cons.mp hst).2).2).2 hlo H1 locs1 ce sl ls ⟨hP1, hS1, fun b => ?_, rfl, rfl⟩ hl
    unfold hh_upd
    split
    · exact (hv_oks_cons.mp hst).1
    · exact hI b
  · exact h.elim
theorem hs_aald (X : hx_C p R s m args meth c own cc nL d D ρ kA A ce0 sl0) (hd : decode cc pc = .ok (.aaload, 1)) (hK : hw_S p l e R s m args below meth c Q nL ρ (hp_P D ρ kA A s.heap ce0 sl0) (K) (pc + 1)) : hw_S p l e R s m args below meth c Q nL ρ (hp_P D ρ kA A s.heap ce0 sl0) (hc_aald K) (pc) := by
  obtain ⟨hx, hb, hml, hown, hts, hroom, hcs, ⟨hK1, hnw, hst1, hcmp, hsio, hstr, hldc⟩, hD, hlk⟩ := id X
  intro lo st x h
  unfold hc_aald at h
  split at h
  · rename_i i a t
    intro hst hlo H locs ce sl ls hP0 hl
    obtain ⟨hP, hS, hI, rfl, rfl⟩ := id hP0
    obtain ⟨q, hq⟩ := hh_of_tag (a := a) rfl h.1.2.1
    obtain ⟨t0, ht0⟩ := hh_tys_at (kA := kA) hq
    have hi := (hv_oks_cons.mp hst).1
    have hin : i.toNat < hh_len a := by have := h.1.2.2; omega
    have ha : (hh_W ρ kA x)[q]? = some (ρ a, .inl (kA a, hh_len a, .inr (.inr (.inr (.inr (fun j => some (ρ (hh_rf (a + j))))))))) := by
      rw [hh_W_at hq]
      unfold hh_e
      rw [if_neg (by simp), if_neg (by have := h.1.1; show ¬ hh_tag a < 3; omega)]
    have hty : (hh_ty (hh_tag a)).isReference = true := by
      have h1 := h.1.1
      have h2 := h.1.2.1
      generalize hh_tag a = tg at h1 h2
      rcases (by omega : tg = 3 ∨ tg = 4 ∨ tg = 5 ∨ tg = 6 ∨ tg = 7) with rfl | rfl | rfl | rfl | rfl <;> rfl
    have hr := (hi_vp (n := hh_len a) hi).mpr h.1.2.2
    have z := hK _ _ _ h.2 (hv_oks_cons.mpr ⟨trivial, (hv_oks_cons.mp (hv_oks_cons.mp hst).2).2⟩) hlo H locs ce sl ls hP0 hl
    refine W.aald (v := .ref (ρ (hh_rf (a + i.toNat)))) (ty := hh_ty (hh_tag a)) hx hb (hP q _ ha) ((hK1.2 t0 _ ht0).1 (hh_len a) (fun j => va_rf (some (ρ (hh_rf (a + j)))))) hty (fun q => by cases q) (by show ¬ (_ < 0 ∨ (arrV _ _ _).slots.size ≤ _); rw [arrV_size]; exact hr) (by show (arrV _ _ _).slots[_]? = _; rw [hi_clamp hi, arrV_read _ _ hin]; rfl) rfl rfl hd z
  · exact h.elim
theorem hs_alen (X : hx_C p R s m args meth c own cc nL d D ρ kA A ce0 sl0) (hd : decode cc pc = .ok (.arraylength, 1)) (hK : hw_S p l e R s m args below meth c Q nL ρ (hp_P D ρ kA A s.heap ce0 sl0) (K) (pc + 1)) : hw_S p l e R s m args below meth c Q nL ρ (hp_P D ρ kA A s.heap ce0 sl0) (hc_alen K) (pc) := by
  obtain ⟨hx, hb, hml, hown, hts, hroom, hcs, ⟨hK1, hnw, hst1, hcmp, hsio, hstr, hldc⟩, hD, hlk⟩ := id X
  intro lo st x h
  unfold hc_alen at h
  split at h
  · rename_i a t
    intro hst hlo H locs ce sl ls hP0 hl
    obtain ⟨hP, hS, hI, rfl, rfl⟩ := id hP0
    obtain ⟨q, hq⟩ := hh_of_tag (a := a) rfl h.1.1
    obtain ⟨t0, ht0⟩ := hh_tys_at (kA := kA) hq
    have ha : ∃ z : vp_A, z.1 = hh_len a ∧ (hh_W ρ kA x)[q]? = some (ρ a, .inl (kA a, z)) := by
      rw [hh_W_at hq]
      unfold hh_e
      rw [if_neg (by simp)]
      split
      · exact ⟨_, rfl, rfl⟩
      · exact ⟨_, rfl, rfl⟩
    obtain ⟨z, hz, ha⟩ := ha
    refine va_alen hx hb hK1 hP q t0 ha ht0 (v := Int32.ofInt (hh_len a : Nat)) (by rw [hz]; exact Int32.ofInt_eq_ofNat.symm) hd ?_
    exact hK _ _ _ h.2 (hv_oks_cons.mpr ⟨⟨by omega, by have := h.1.2; omega⟩, (hv_oks_cons.mp hst).2⟩) hlo H locs ce sl ls hP0 hl
  · exact h.elim
theorem hs_copy (X : hx_C p R s m args meth c own cc nL d D ρ kA A ce0 sl0) {index : Nat} (hlk2 : Cond.methodLink own index arraycopyName ∈ hh_ws) (hn1 : Cond.native arraycopyName ∈ hh_ws) (hn2 : Cond.static arraycopyName ∈ hh_ws) (hn3 : Cond.initialized "java/lang/System" ∈ hh_ws) (hd1 : 1 ≤ d) (hd : decode cc pc = .ok (.invokestatic index, 3)) (hK : hw_S p l e R s m args below meth c Q nL ρ (hp_P D ρ kA A s.heap ce0 sl0) (K) (pc + 3)) : hw_S p l e R s m args below meth c Q nL ρ (hp_P D ρ kA A s.heap ce0 sl0) (hc_copy K) (pc) := by
  obtain ⟨hx, hb, hml, hown, hts, hroom, hcs, ⟨hK1, hnw, hst1, hcmp, hsio, hstr, hldc⟩, hD, hlk⟩ := id X
  intro lo st x h
  unfold hc_copy at h
  split at h
  · rename_i n dp a sp b t
    intro hst hlo H locs ce sl ls hP0 hl
    obtain ⟨hP, hS, hI, rfl, rfl⟩ := id hP0
    obtain ⟨q1, hq1⟩ := hh_of_tag h.1.1 (by decide)
    obtain ⟨q0, hq0⟩ := hh_of_tag h.1.2.1 (by decide)
    obtain ⟨t1, ht1⟩ := hh_tys_at (kA := kA) hq1
    obtain ⟨t0, ht0⟩ := hh_tys_at (kA := kA) hq0
    obtain ⟨hn, hst⟩ := hv_oks_cons.mp hst
    obtain ⟨hdp, hst⟩ := hv_oks_cons.mp hst
    obtain ⟨-, hst⟩ := hv_oks_cons.mp hst
    obtain ⟨hsp, hst⟩ := hv_oks_cons.mp hst
    obtain ⟨-, hst⟩ := hv_oks_cons.mp hst
    obtain ⟨⟨-, -, g1, g2, g3, g4, g5, g6⟩, hk⟩ := h
    have neg : ∀ {z : Int}, hv_I z → 0 ≤ z → ¬ Int32.ofInt z < 0 := fun hz h0 hlt => by
      rw [hi_z, hi_lt hz hi_0] at hlt
      omega
    refine va_copyi hx hb (hml.trans hl.1.symm) hown (hts _ hlk2) (hts _ hn1) (hts _ hn2) (hts _ hn3) hK1 hP (hD x) hS q0 q1 t0 t1 (n0 := hh_len b) (n1 := hh_len a) (f := hh_fa x b (hh_len b)) (g := hh_fa x a (hh_len a)) (by rw [hh_W_at hq0]; rfl) (by rw [hh_W_at hq1]; rfl) ht0 ht1 rfl (neg hsp g1) (neg hdp g2) (neg hn g3) (by rw [hi_clamp hsp, hi_clamp hn]; omega) (by rw [hi_clamp hdp, hi_clamp hn]; omega) (fun _ _ => rfl) (Nat.le_trans hd1 hroom.1) ?_ hd (fun H1 locs1 hP1 hD1 hS1 => ?_)
    · rw [hv_w_eq]
      have h9 : nativeFrameWords "java/lang/System" "arraycopy" 5 ≤ 20 := by decide +kernel
      have := hroom.2
      omega
    · rw [hi_clamp hsp, hi_clamp hdp, hi_clamp hn] at hP1
      have hP1 := Eq.mp (congrArg (fun w => va_P D vwCl w H1) (hh_W_set (ρ := ρ) (kA := kA) (mem := x) (mem' := hh_cpy x b sp.toNat a dp.toNat n.toNat) hq1 ?_ ?_)) hP1
      · refine hK lo t _ hk hst hlo H1 locs1 ce sl ls ⟨hP1, hS1, fun q => ?_, rfl, rfl⟩ hl
        unfold hh_cpy
        split
        · exact hI _
        · exact hI _
      · show _ = hh_e ρ kA _ (a, 1, 0, hh_len a)
        unfold hh_e
        rw [if_neg (by simp), if_pos (by simp)]
        congr 4
        funext j
        unfold va_cpy hh_fa hh_cpy
        by_cases hj : dp.toNat ≤ j ∧ j < dp.toNat + n.toNat
        · have h1 : j < hh_len a := by omega
          have h2 : sp.toNat + (j - dp.toNat) < hh_len b := by omega
          have h3 : a + dp.toNat ≤ a + j ∧ a + j < a + dp.toNat + n.toNat := by omega
          have h4 : a + j - (a + dp.toNat) = j - dp.toNat := by omega
          rw [if_pos hj, if_pos h2, if_pos h1, if_pos h3, h4, Nat.add_assoc b]
        · have h3 : ¬ (a + dp.toNat ≤ a + j ∧ a + j < a + dp.toNat + n.toNat) := by omega
          simp only [hj, h3, if_false]
      · intro q hq
        unfold hh_cpy
        rw [if_neg]
        rintro ⟨z1, z2⟩
        exact hq (q - a) (by show _ < hh_len a; omega) (by show q = a + (q - a); omega)
  · exact h.elim
theorem hs_gets (X : hx_C p R s m args meth c own cc nL d D ρ kA A ce0 sl0) {C n : String} {q index : Nat} {vs : List Int} (hq : (C, n, q, vs) ∈ hh_stat) (hlk2 : Cond.fieldLink own index C n "[I" ∈ hh_ws) (hd : decode cc pc = .ok (.getstatic index, 3)) (hK : hw_S p l e R s m args below meth c Q nL ρ (hp_P D ρ kA A s.heap ce0 sl0) (K) (pc + 3)) : hw_S p l e R s m args below meth c Q nL ρ (hp_P D ρ kA A s.heap ce0 sl0) (hc_gets q K) (pc) := by
  obtain ⟨hx, hb, hml, hown, hts, hroom, hcs, ⟨hK1, hnw, hst1, hcmp, hsio, hstr, hldc⟩, hD, hlk⟩ := id X
  intro lo st x h
  unfold hc_gets at h
  intro hst hlo H locs ce sl ls hP0 hl
  obtain ⟨hP, hS, hI, rfl, rfl⟩ := id hP0
  exact va_gets hx hb (hst1 _ hq).1 hS hown (hts _ hlk2) (fun _ h9 => h9) hd (hK _ _ _ h (hv_oks_cons.mpr ⟨trivial, hst⟩) hlo H locs ce sl ls hP0 hl)
theorem hs_getsC (X : hx_C p R s m args meth c own cc nL d D ρ kA A ce0 sl0) {index : Nat} (hlk2 : Cond.fieldLink own index "java/lang/String" "COMPACT_STRINGS" "Z" ∈ hh_ws) (hd : decode cc pc = .ok (.getstatic index, 3)) (hK : hw_S p l e R s m args below meth c Q nL ρ (hp_P D ρ kA A s.heap ce0 sl0) (K) (pc + 3)) : hw_S p l e R s m args below meth c Q nL ρ (hp_P D ρ kA A s.heap ce0 sl0) (hc_getsI 1 K) (pc) := by
  obtain ⟨hx, hb, hml, hown, hts, hroom, hcs, ⟨hK1, hnw, hst1, hcmp, hsio, hstr, hldc⟩, hD, hlk⟩ := id X
  intro lo st x h
  unfold hc_getsI at h
  intro hst hlo H locs ce sl ls hP0 hl
  obtain ⟨hP, hS, hI, rfl, rfl⟩ := id hP0
  exact va_gets (v := .int (Int32.ofInt 1)) hx hb hcmp hS hown (hts _ hlk2) (fun _ h9 => h9) hd (hK _ _ _ h (hv_oks_cons.mpr ⟨(show hv_I 1 by decide), hst⟩) hlo H locs ce sl ls hP0 hl)
theorem hh_sl_of {a : Nat} {i : Int} (h0 : 0 ≤ i) (h : i < (hh_sl a).length) : ∃ C n, (C, n, a, hh_sl a) ∈ hh_stat := by
  unfold hh_sl at h ⊢
  split at h
  · exact ⟨_, _, List.mem_of_getElem? (i := 0) rfl⟩
  · exact ⟨_, _, List.mem_of_getElem? (i := 1) rfl⟩
  · exact ⟨_, _, List.mem_of_getElem? (i := 2) rfl⟩
  · exact ⟨_, _, List.mem_of_getElem? (i := 3) rfl⟩
  · simp at h
    omega
theorem hh_sl_ok (a k : Nat) : hv_I ((hh_sl a).getD k 0) := by
  unfold hh_sl
  split
  · match k with
    | 0 => decide
    | 1 => decide
    | 2 => decide
    | k + 3 => exact (show hv_I 0 by decide)
  · match k with
    | 0 => decide
    | 1 => decide
    | 2 => decide
    | k + 3 => exact (show hv_I 0 by decide)
  · match k with
    | 0 => decide
    | 1 => decide
    | 2 => decide
    | 3 => decide
    | 4 => decide
    | 5 => decide
    | 6 => decide
    | 7 => decide
    | 8 => decide
    | k + 9 => exact (show hv_I 0 by decide)
  · match k with
    | 0 => decide
    | 1 => decide
    | 2 => decide
    | 3 => decide
    | 4 => decide
    | k + 5 => exact (show hv_I 0 by decide)
  · exact (show hv_I 0 by decide)
theorem hs_sald (X : hx_C p R s m args meth c own cc nL d D ρ kA A ce0 sl0) (hd : decode cc pc = .ok (.iaload, 1)) (hK : hw_S p l e R s m args below meth c Q nL ρ (hp_P D ρ kA A s.heap ce0 sl0) (K) (pc + 1)) : hw_S p l e R s m args below meth c Q nL ρ (hp_P D ρ kA A s.heap ce0 sl0) (hc_sald K) (pc) := by
  obtain ⟨hx, hb, hml, hown, hts, hroom, hcs, ⟨hK1, hnw, hst1, hcmp, hsio, hstr, hldc⟩, hD, hlk⟩ := id X
  intro lo st x h
  unfold hc_sald at h
  split at h
  · rename_i i a t
    intro hst hlo H locs ce sl ls hP0 hl
    obtain ⟨hP, hS, hI, rfl, rfl⟩ := id hP0
    obtain ⟨C, n, hq⟩ := hh_sl_of h.1.1 h.1.2
    have hi := (hv_oks_cons.mp hst).1
    refine va_ti (v := .int (Int32.ofInt ((hh_sl a).getD i.toNat 0))) hx hb (hst1 _ hq).2 hS ((hi_vp hi).mpr h.1) (by rw [hi_clamp hi]) hd ?_
    exact hK _ _ _ h.2 (hv_oks_cons.mpr ⟨hh_sl_ok _ _, (hv_oks_cons.mp (hv_oks_cons.mp hst).2).2⟩) hlo H locs ce sl ls hP0 hl
  · exact h.elim
theorem hs_ldcs (X : hx_C p R s m args meth c own cc nL d D ρ kA A ce0 sl0) {k index : Nat} {tx : String} (hown2 : own = "HeelsIn$Reader") (hk : k < hh_strN) (hi : (hh_str.getD k (0, "", [])).1 = index) (hd : decode cc pc = .ok (.ldc index, 2)) (hK : hw_S p l e R s m args below meth c Q nL ρ (hp_P D ρ kA A s.heap ce0 sl0) (K) (pc + 2)) : hw_S p l e R s m args below meth c Q nL ρ (hp_P D ρ kA A s.heap ce0 sl0) (hc_ldcs k K) (pc) := by
  obtain ⟨hx, hb, hml, hown, hts, hroom, hcs, ⟨hK1, hnw, hst1, hcmp, hsio, hstr, hldc⟩, hD, hlk⟩ := id X
  intro lo st x h
  unfold hc_ldcs at h
  intro hst hlo H locs ce sl ls hP0 hl
  obtain ⟨hP, hS, hI, rfl, rfl⟩ := id hP0
  subst hown2
  exact va_ldcS hx hb hown (hldc k hk) (by rw [hi]; exact hd) (hK _ _ _ h (hv_oks_cons.mpr ⟨trivial, hst⟩) hlo H locs ce sl ls hP0 hl)
theorem hs_sval (X : hx_C p R s m args meth c own cc nL d D ρ kA A ce0 sl0) {index : Nat} (hlk2 : Cond.fieldLink own index "java/lang/String" "value" "[B" ∈ hh_ws) (hd : decode cc pc = .ok (.getfield index, 3)) (hK : hw_S p l e R s m args below meth c Q nL ρ (hp_P D ρ kA A s.heap ce0 sl0) (K) (pc + 3)) : hw_S p l e R s m args below meth c Q nL ρ (hp_P D ρ kA A s.heap ce0 sl0) (hc_sval K) (pc) := by
  obtain ⟨hx, hb, hml, hown, hts, hroom, hcs, ⟨hK1, hnw, hst1, hcmp, hsio, hstr, hldc⟩, hD, hlk⟩ := id X
  intro lo st x h
  unfold hc_sval at h
  split at h
  · rename_i a t
    intro hst hlo H locs ce sl ls hP0 hl
    obtain ⟨hP, hS, hI, rfl, rfl⟩ := id hP0
    obtain ⟨⟨k, hk, rfl⟩, h2⟩ := h
    exact vk_getf hx hb (hstr.1 k hk).2.2.1 hS hown (hts _ hlk2) (fun _ h9 => h9) hd (hK _ _ _ h2 (hv_oks_cons.mpr ⟨trivial, (hv_oks_cons.mp hst).2⟩) hlo H locs ce sl ls hP0 hl)
  · exact h.elim
theorem hs_scod (X : hx_C p R s m args meth c own cc nL d D ρ kA A ce0 sl0) {index : Nat} (hlk2 : Cond.fieldLink own index "java/lang/String" "coder" "B" ∈ hh_ws) (hd : decode cc pc = .ok (.getfield index, 3)) (hK : hw_S p l e R s m args below meth c Q nL ρ (hp_P D ρ kA A s.heap ce0 sl0) (K) (pc + 3)) : hw_S p l e R s m args below meth c Q nL ρ (hp_P D ρ kA A s.heap ce0 sl0) (hc_scod K) (pc) := by
  obtain ⟨hx, hb, hml, hown, hts, hroom, hcs, ⟨hK1, hnw, hst1, hcmp, hsio, hstr, hldc⟩, hD, hlk⟩ := id X
  intro lo st x h
  unfold hc_scod at h
  split at h
  · rename_i a t
    intro hst hlo H locs ce sl ls hP0 hl
    obtain ⟨hP, hS, hI, rfl, rfl⟩ := id hP0
    obtain ⟨⟨k, hk, rfl⟩, h2⟩ := h
    exact vk_getf (v := .int (Int32.ofInt 0)) hx hb (hstr.1 k hk).2.1 hS hown (hts _ hlk2) (fun _ h9 => h9) hd (hK _ _ _ h2 (hv_oks_cons.mpr ⟨hi_0, (hv_oks_cons.mp hst).2⟩) hlo H locs ce sl ls hP0 hl)
  · exact h.elim
theorem hh_strL_eq {k : Nat} (hk : k < hh_strN) : hh_strL.getD k 0 = (hh_strB k).length ∧ (hh_strB k).length < 100 ∧ ∀ j, j < (hh_strB k).length → (hh_strC.getD k []).getD j 0 = Int32.ofInt ((hh_strB k).getD j 0) ∧ hv_I ((hh_strB k).getD j 0) := by
  have h : (List.range hh_strN).all (fun k => decide (hh_strL.getD k 0 = (hh_strB k).length ∧ (hh_strB k).length < 100 ∧ ∀ j, j < (hh_strB k).length → (hh_strC.getD k []).getD j 0 = Int32.ofInt ((hh_strB k).getD j 0) ∧ hv_I ((hh_strB k).getD j 0))) = true := by decide +kernel
  exact of_decide_eq_true (List.all_eq_true.mp h k (List.mem_range.mpr hk))
theorem hs_slen (X : hx_C p R s m args meth c own cc nL d D ρ kA A ce0 sl0) (hd : decode cc pc = .ok (.arraylength, 1)) (hK : hw_S p l e R s m args below meth c Q nL ρ (hp_P D ρ kA A s.heap ce0 sl0) (K) (pc + 1)) : hw_S p l e R s m args below meth c Q nL ρ (hp_P D ρ kA A s.heap ce0 sl0) (hc_slen K) (pc) := by
  obtain ⟨hx, hb, hml, hown, hts, hroom, hcs, ⟨hK1, hnw, hst1, hcmp, hsio, hstr, hldc⟩, hD, hlk⟩ := id X
  intro lo st x h
  unfold hc_slen at h
  split at h
  · rename_i b t
    intro hst hlo H locs ce sl ls hP0 hl
    obtain ⟨hP, hS, hI, rfl, rfl⟩ := id hP0
    obtain ⟨k, ⟨hk, rfl⟩, h2⟩ := h
    obtain ⟨e1, e2, e3⟩ := hh_strL_eq hk
    refine va_tlen (v := Int32.ofInt ((hh_strB k).length : Nat)) hx hb (hstr.1 k hk).2.2.2 hS (by rw [e1]; exact Int32.ofInt_eq_ofNat.symm) hd ?_
    exact hK _ _ _ h2 (hv_oks_cons.mpr ⟨⟨by omega, by omega⟩, (hv_oks_cons.mp hst).2⟩) hlo H locs ce sl ls hP0 hl
  · exact h.elim
theorem hs_sbald (X : hx_C p R s m args meth c own cc nL d D ρ kA A ce0 sl0) (hd : decode cc pc = .ok (.baload, 1)) (hK : hw_S p l e R s m args below meth c Q nL ρ (hp_P D ρ kA A s.heap ce0 sl0) (K) (pc + 1)) : hw_S p l e R s m args below meth c Q nL ρ (hp_P D ρ kA A s.heap ce0 sl0) (hc_sbald K) (pc) := by
  obtain ⟨hx, hb, hml, hown, hts, hroom, hcs, ⟨hK1, hnw, hst1, hcmp, hsio, hstr, hldc⟩, hD, hlk⟩ := id X
  intro lo st x h
  unfold hc_sbald at h
  split at h
  · rename_i i b t
    intro hst hlo H locs ce sl ls hP0 hl
    obtain ⟨hP, hS, hI, rfl, rfl⟩ := id hP0
    obtain ⟨k, ⟨hk, rfl, h0, h1⟩, h2⟩ := h
    obtain ⟨e1, e2, e3⟩ := hh_strL_eq hk
    have hi := (hv_oks_cons.mp hst).1
    obtain ⟨e4, e5⟩ := e3 i.toNat (by omega)
    refine va_tb (v := .int (Int32.ofInt ((hh_strB k).getD i.toNat 0))) hx hb (hstr.1 k hk).2.2.2 hS ((hi_vp hi).mpr ⟨h0, by rw [e1]; exact h1⟩) (by rw [hi_clamp hi]; exact congrArg Value.int e4) hd ?_
    exact hK _ _ _ h2 (hv_oks_cons.mpr ⟨e5, (hv_oks_cons.mp (hv_oks_cons.mp hst).2).2⟩) hlo H locs ce sl ls hP0 hl
  · exact h.elim
end HH
