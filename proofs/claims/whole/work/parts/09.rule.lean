/-- the same as hw_S, the context read off X -/
def hw_Z {p : Program} {R : Room} {s : State} {m : MethodId} {args : Array Value} {meth : Method} {c : Code} {own : String} {cc : ByteArray} {nL d : Nat} {D : va_G} {ρ : Nat → Nat} {kA : Nat → ClassId} {A : Nat → Prop} {ce sl : Nat} (_ : hx_C p R s m args meth c own cc nL d D ρ kA A ce sl) (l : Launch) (e : Env) (below : List Frame) (QF : State → Prop) (K : hv_K hm) (pc : Nat) : Prop :=
  hw_S p l e R s m args below meth c QF nL ρ (hp_P D ρ kA A s.heap ce sl) K pc
def hw_A {p : Program} {R : Room} {s : State} {m : MethodId} {args : Array Value} {meth : Method} {c : Code} {own : String} {cc : ByteArray} {nL d : Nat} {D : va_G} {ρ : Nat → Nat} {kA : Nat → ClassId} {A : Nat → Prop} {ce sl : Nat} (_ : hx_C p R s m args meth c own cc nL d D ρ kA A ce sl) (l : Launch) (e : Env) (below : List Frame) (QF : State → Prop) (pc : Nat) : hv_K hm :=
  hw_C p l e R s m args below meth c QF nL ρ (hp_P D ρ kA A s.heap ce sl) pc
def hc_none : hv_K hm := fun _ _ _ => False
section HR
variable {p : Program} {l : Launch} {e : Env} {R : Room} {s : State} {m : MethodId} {args : Array Value} {below : List Frame} {meth : Method} {c : Code} {Q : State → Prop} {nL d : Nat} {ρ : Nat → Nat} {D : va_G} {kA : Nat → ClassId} {A : Nat → Prop} {ce0 sl0 : Nat} {cc : ByteArray} {own : String} {pc : Nat} {K Kt Kf : hv_K hm}
theorem hs_none : hw_S p l e R s m args below meth c Q nL ρ (hp_P D ρ kA A s.heap ce0 sl0) hc_none pc := fun _ _ _ h => h.elim
theorem hw_atA (X : hx_C p R s m args meth c own cc nL d D ρ kA A ce0 sl0) : hw_S p l e R s m args below meth c Q nL ρ (hp_P D ρ kA A s.heap ce0 sl0) (hw_A X l e below Q pc) pc := fun _ _ _ h => h
theorem hm_of_int {M : hm_M} {av : List hv_V} {mem : hm} {QQ : Int → hm → Prop} (hret : M.2.2.2 = some .int) (hy : plainName M.1.cls = true) (hav : hv_wl av ≤ M.2.2.1)
    (body : ∀ (p : Program) (e : Env) (R : Room) (s : State) (m : MethodId) (args : Array Value) (below : List Frame) (meth : Method) (c : Code) (D : va_G) (ρ : Nat → Nat) (kA : Nat → ClassId) (QF : State → Prop) (X : hx_C p R s m args meth c M.1.cls M.2.1 M.2.2.1 d D ρ kA (hh_dom ρ) 0 0), (∀ pc, decode M.2.1 pc = .ok (.ireturn, 1) → hw_S p l e R s m args below meth c QF M.2.2.1 ρ (hp_P D ρ kA (hh_dom ρ) s.heap 0 0) (hc_ireturn QQ) pc) → hw_A X l e below QF 0 (hv_ent av M.2.2.1) [] mem) : hm_I l M d av mem QQ := by
  refine hm_I_of hy hav (fun p e R s m args below meth c D ρ kA X hr => ?_)
  exact body p e R s m args below meth c D ρ kA _ X (fun pc hd => hs_ireturn X (by rw [hr, hret]) hd)
theorem hm_of_bool {M : hm_M} {av : List hv_V} {mem : hm} {QQ : Int → hm → Prop} (hret : M.2.2.2 = some .boolean) (hy : plainName M.1.cls = true) (hav : hv_wl av ≤ M.2.2.1)
    (body : ∀ (p : Program) (e : Env) (R : Room) (s : State) (m : MethodId) (args : Array Value) (below : List Frame) (meth : Method) (c : Code) (D : va_G) (ρ : Nat → Nat) (kA : Nat → ClassId) (QF : State → Prop) (X : hx_C p R s m args meth c M.1.cls M.2.1 M.2.2.1 d D ρ kA (hh_dom ρ) 0 0), (∀ pc, decode M.2.1 pc = .ok (.ireturn, 1) → hw_S p l e R s m args below meth c QF M.2.2.1 ρ (hp_P D ρ kA (hh_dom ρ) s.heap 0 0) (hc_zreturn QQ) pc) → hw_A X l e below QF 0 (hv_ent av M.2.2.1) [] mem) : hm_I l M d av mem QQ := by
  refine hm_I_of hy hav (fun p e R s m args below meth c D ρ kA X hr => ?_)
  exact body p e R s m args below meth c D ρ kA _ X (fun pc hd => hs_zreturn X (by rw [hr, hret]) hd)
theorem hm_of_byte {M : hm_M} {av : List hv_V} {mem : hm} {QQ : Int → hm → Prop} (hret : M.2.2.2 = some .byte) (hy : plainName M.1.cls = true) (hav : hv_wl av ≤ M.2.2.1)
    (body : ∀ (p : Program) (e : Env) (R : Room) (s : State) (m : MethodId) (args : Array Value) (below : List Frame) (meth : Method) (c : Code) (D : va_G) (ρ : Nat → Nat) (kA : Nat → ClassId) (QF : State → Prop) (X : hx_C p R s m args meth c M.1.cls M.2.1 M.2.2.1 d D ρ kA (hh_dom ρ) 0 0), (∀ pc, decode M.2.1 pc = .ok (.ireturn, 1) → hw_S p l e R s m args below meth c QF M.2.2.1 ρ (hp_P D ρ kA (hh_dom ρ) s.heap 0 0) (hc_creturn QQ) pc) → hw_A X l e below QF 0 (hv_ent av M.2.2.1) [] mem) : hm_I l M d av mem QQ := by
  refine hm_I_of hy hav (fun p e R s m args below meth c D ρ kA X hr => ?_)
  exact body p e R s m args below meth c D ρ kA _ X (fun pc hd => hs_creturn X (Or.inl rfl) (by rw [hr, hret]) hd)
theorem hm_of_char {M : hm_M} {av : List hv_V} {mem : hm} {QQ : Int → hm → Prop} (hret : M.2.2.2 = some .char) (hy : plainName M.1.cls = true) (hav : hv_wl av ≤ M.2.2.1)
    (body : ∀ (p : Program) (e : Env) (R : Room) (s : State) (m : MethodId) (args : Array Value) (below : List Frame) (meth : Method) (c : Code) (D : va_G) (ρ : Nat → Nat) (kA : Nat → ClassId) (QF : State → Prop) (X : hx_C p R s m args meth c M.1.cls M.2.1 M.2.2.1 d D ρ kA (hh_dom ρ) 0 0), (∀ pc, decode M.2.1 pc = .ok (.ireturn, 1) → hw_S p l e R s m args below meth c QF M.2.2.1 ρ (hp_P D ρ kA (hh_dom ρ) s.heap 0 0) (hc_creturn QQ) pc) → hw_A X l e below QF 0 (hv_ent av M.2.2.1) [] mem) : hm_I l M d av mem QQ := by
  refine hm_I_of hy hav (fun p e R s m args below meth c D ρ kA X hr => ?_)
  exact body p e R s m args below meth c D ρ kA _ X (fun pc hd => hs_creturn X (Or.inr rfl) (by rw [hr, hret]) hd)
theorem hm_of_long {M : hm_M} {av : List hv_V} {mem : hm} {QQ : Int → hm → Prop} (hret : M.2.2.2 = some .long) (hy : plainName M.1.cls = true) (hav : hv_wl av ≤ M.2.2.1)
    (body : ∀ (p : Program) (e : Env) (R : Room) (s : State) (m : MethodId) (args : Array Value) (below : List Frame) (meth : Method) (c : Code) (D : va_G) (ρ : Nat → Nat) (kA : Nat → ClassId) (QF : State → Prop) (X : hx_C p R s m args meth c M.1.cls M.2.1 M.2.2.1 d D ρ kA (hh_dom ρ) 0 0), (∀ pc, decode M.2.1 pc = .ok (.lreturn, 1) → hw_S p l e R s m args below meth c QF M.2.2.1 ρ (hp_P D ρ kA (hh_dom ρ) s.heap 0 0) (hc_lreturn QQ) pc) → hw_A X l e below QF 0 (hv_ent av M.2.2.1) [] mem) : hm_L l M d av mem QQ := by
  refine hm_L_of hy hav (fun p e R s m args below meth c D ρ kA X hr => ?_)
  exact body p e R s m args below meth c D ρ kA _ X (fun pc hd => hs_lreturn X (by rw [hr, hret]) hd)
theorem hm_of_void {M : hm_M} {av : List hv_V} {mem : hm} {QQ : hm → Prop} (hret : M.2.2.2 = none) (hy : plainName M.1.cls = true) (hav : hv_wl av ≤ M.2.2.1)
    (body : ∀ (p : Program) (e : Env) (R : Room) (s : State) (m : MethodId) (args : Array Value) (below : List Frame) (meth : Method) (c : Code) (D : va_G) (ρ : Nat → Nat) (kA : Nat → ClassId) (QF : State → Prop) (X : hx_C p R s m args meth c M.1.cls M.2.1 M.2.2.1 d D ρ kA (hh_dom ρ) 0 0), (∀ pc, decode M.2.1 pc = .ok (.return_, 1) → hw_S p l e R s m args below meth c QF M.2.2.1 ρ (hp_P D ρ kA (hh_dom ρ) s.heap 0 0) (hc_return QQ) pc) → hw_A X l e below QF 0 (hv_ent av M.2.2.1) [] mem) : hm_V l M d av mem QQ := by
  refine hm_V_of hy hav (fun p e R s m args below meth c D ρ kA X hr => ?_)
  exact body p e R s m args below meth c D ρ kA _ X (fun pc hd => hs_return X (by rw [hr, hret]) hd)
/-- a switch over numbers -/
def hv_sw (z : Int) : Int → List (hv_K hm) → hv_L → List hv_V → hm → Prop
  | _, [], _, _, _ => True
  | lo, k :: ks, l, t, x => (z = lo → k l t x) ∧ hv_sw z (lo + 1) ks l t x
def hc_switch (lo : Int) (ts : List (hv_K hm)) (df : hv_K hm) : hv_K hm := fun l st x => match st with
  | .inl z :: t => hv_sw z lo ts l t x ∧ ((z < lo ∨ lo + ts.length ≤ z) → df l t x)
  | _ => False
def hv_swS (p : Program) (l : Launch) (e : Env) (R : Room) (s : State) (m : MethodId) (args : Array Value) (below : List Frame) (meth : Method) (c : Code) (Q : State → Prop) (nL : Nat) (ρ : Nat → Nat) (Pic : hm → Heap → List Loc → Nat → Nat → Prop) (pc : Nat) : List (hv_K hm) → List Int → Prop
  | [], [] => True
  | k :: ks, o :: os => (∃ tgt : Nat, (pc : Int) + o = (tgt : Int) ∧ hw_S p l e R s m args below meth c Q nL ρ Pic k tgt) ∧ hv_swS p l e R s m args below meth c Q nL ρ Pic pc ks os
  | _, _ => False
theorem hv_sw_pick {Pic : hm → Heap → List Loc → Nat → Nat → Prop} {z : Int} : ∀ (ts : List (hv_K hm)) (os : List Int) (lo : Int) (lo' : hv_L) (t : List hv_V) (x : hm), hv_swS p l e R s m args below meth c Q nL ρ Pic pc ts os → hv_sw z lo ts lo' t x → lo ≤ z → z < lo + ts.length → ∃ (off : Int) (tgt : Nat), os[(z - lo).toNat]? = some off ∧ (pc : Int) + off = (tgt : Int) ∧ hw_C p l e R s m args below meth c Q nL ρ Pic tgt lo' t x := by
  intro ts
  induction ts with
  | nil => intro os lo lo' t x _ _ h1 h2; simp at h2; omega
  | cons k ks ih =>
    intro os lo lo' t x hS hz h1 h2
    cases os with
    | nil => exact hS.elim
    | cons o os =>
      obtain ⟨⟨tgt, g1, g2⟩, g3⟩ := hS
      by_cases he : z = lo
      · subst he
        exact ⟨o, tgt, by simp, g1, g2 _ _ _ (hz.1 rfl)⟩
      · obtain ⟨off, tg, q1, q2, q3⟩ := ih os (lo + 1) lo' t x g3 hz.2 (by omega) (by simp at h2; omega)
        refine ⟨off, tg, ?_, q2, q3⟩
        rw [show (z - lo).toNat = (z - (lo + 1)).toNat + 1 by omega]
        exact q1
theorem hs_switch {Pic : hm → Heap → List Loc → Nat → Nat → Prop} (hx : p.tables.exec = Jvm.exec) (hb : c.code = cc) {dflt lo hi : Int} {offs : Array Int} {len : Nat} {ts : List (hv_K hm)} {df : hv_K hm} (hd : decode cc pc = .ok (.tableswitch dflt lo hi offs, len)) (hn : hi = lo + ts.length - 1) (hS : hv_swS p l e R s m args below meth c Q nL ρ Pic pc ts offs.toList) {tgt : Nat} (ht : (pc : Int) + dflt = (tgt : Int)) (hdf : hw_S p l e R s m args below meth c Q nL ρ Pic df tgt) : hw_S p l e R s m args below meth c Q nL ρ Pic (hc_switch lo ts df) pc := by
  intro lo' st x h
  unfold hc_switch at h
  split at h
  · rename_i z t
    intro hst hlo H locs ce sl ls hP hl
    have oz := (hv_oks_cons.mp hst).1
    have hst' := (hv_oks_cons.mp hst).2
    by_cases hin : lo ≤ z ∧ z < lo + ts.length
    · obtain ⟨off, tg, q1, q2, q3⟩ := hv_sw_pick ts offs.toList lo lo' t x hS h.1 hin.1 hin.2
      refine lv_tableIn (off := off) (tgt := tg) hx hb hd (by rw [hi_toInt oz]; omega) (by rw [hi_toInt oz]; omega) ?_ q2 (q3 hst' hlo H locs ce sl ls hP hl)
      rw [hi_toInt oz, ← Array.getElem?_toList]
      exact q1
    · refine lv_tableOut hx hb hd (by rw [hi_toInt oz]; omega) ht (hdf _ _ _ (h.2 (by omega)) hst' hlo H locs ce sl ls hP hl)
  · exact h.elim
end HR
