/-! methods: contracts over memories; calls and returns -/
abbrev hm_M : Type := MethodName × ByteArray × Nat × Option FieldType
def hm_ws (M : hm_M) : List Cond := .code M.1 M.2.1 M.2.2.1 M.2.2.2 :: hh_ws
def hm_rm (d : Nat) : Room := { frames := d, cells := 0, slots := 0, locals := 60 * d }
def hh_dom (ρ : Nat → Nat) : Nat → Prop := fun q => ∃ c ∈ hh_cells, q = ρ c.1
def hm_W (D : va_G) (ρ : Nat → Nat) (kA : Nat → ClassId) (mem : hm) (U : State) : Prop := hx_K D ρ kA (hh_dom ρ) U ∧ va_P D vwCl (hh_W ρ kA mem) U.heap ∧ (∀ mem' : hm, va_D (hh_dom ρ) (hh_W ρ kA mem')) ∧ ∀ a, hv_I (mem a)
/-- method M at these arguments and this memory answers an int, and leaves a memory, of which Q holds -/
def hm_I (l : Launch) (M : hm_M) (d : Nat) (av : List hv_V) (mem : hm) (Q : Int → hm → Prop) : Prop :=
  ∀ (D : va_G) (ρ : Nat → Nat) (kA : Nat → ClassId), hv_oks av → Met l M.1 (hm_ws M) (hm_rm d) (va_Pc (av.map (hv_t ρ)) (hm_W D ρ kA mem)) (va_Qi (fun (r : Int32) (u : hm) => Q r.toInt u) (fun u t => hm_W D ρ kA u t) (hh_dom ρ)) 0 0 (hh_dom ρ)
def hm_L (l : Launch) (M : hm_M) (d : Nat) (av : List hv_V) (mem : hm) (Q : Int → hm → Prop) : Prop :=
  ∀ (D : va_G) (ρ : Nat → Nat) (kA : Nat → ClassId), hv_oks av → Met l M.1 (hm_ws M) (hm_rm d) (va_Pc (av.map (hv_t ρ)) (hm_W D ρ kA mem)) (va_Ql (fun (r : Int64) (u : hm) => Q r.toInt u) (fun u t => hm_W D ρ kA u t) (hh_dom ρ)) 0 0 (hh_dom ρ)
def hm_V (l : Launch) (M : hm_M) (d : Nat) (av : List hv_V) (mem : hm) (Q : hm → Prop) : Prop :=
  ∀ (D : va_G) (ρ : Nat → Nat) (kA : Nat → ClassId), hv_oks av → Met l M.1 (hm_ws M) (hm_rm d) (va_Pc (av.map (hv_t ρ)) (hm_W D ρ kA mem)) (va_Qv (fun (u : hm) => Q u) (fun u t => hm_W D ρ kA u t) (hh_dom ρ)) 0 0 (hh_dom ρ)
theorem hh_good : ∀ w ∈ hh_ws, (w.onTables && w.keeps) = true ∨ ∃ ty, w = .arrayClass ty := fun w hw => good_of_word (List.mem_filter.mp hw).2
theorem hh_goodIn {ws : List Cond} (h : ∀ w ∈ ws, w ∈ hh_ws) : GoodIn hh_ws ws := fun w hw => ⟨h w hw, hh_good w (h w hw)⟩
/-- what a call needs of an instance method, of a static one -/
def hm_OV (M : hm_M) (n : Nat) : Prop := (Cond.instanceMethod M.1 ∈ hh_ws ∧ Cond.selects M.1.cls M.1 M.1 ∈ hh_ws ∧ Cond.initialized M.1.cls ∈ hh_ws ∧ Cond.code M.1 M.2.1 M.2.2.1 M.2.2.2 ∈ hh_ws) ∧ (M.1.cls ≠ "java/lang/invoke/MethodHandle" ∧ M.1.cls ≠ "java/lang/invoke/VarHandle" ∧ (parseMethodDescriptor M.1.desc).map (fun d => d.parameters.length) = some n) ∧ M.2.2.1 ≤ 41
def hm_OS (M : hm_M) (n : Nat) : Prop := (Cond.static M.1 ∈ hh_ws ∧ Cond.initialized M.1.cls ∈ hh_ws ∧ Cond.code M.1 M.2.1 M.2.2.1 M.2.2.2 ∈ hh_ws) ∧ (M.1.cls ≠ "java/lang/invoke/MethodHandle" ∧ M.1.cls ≠ "java/lang/invoke/VarHandle" ∧ (parseMethodDescriptor M.1.desc).map (fun d => d.parameters.length) = some n) ∧ M.2.2.1 ≤ 41
/-- the top n of the stack, in the order in which they were laid, and the rest -/
def hv_pop : Nat → List hv_V → List hv_V → List hv_V × List hv_V
  | 0, acc, st => (acc, st)
  | n + 1, acc, v :: st => hv_pop n (v :: acc) st
  | _ + 1, acc, [] => (acc, [])
def hv_pk : Nat → List hv_V → Prop
  | 0, _ => True
  | n + 1, _ :: st => hv_pk n st
  | _ + 1, [] => False
theorem hv_pop_spec : ∀ (n : Nat) (acc st : List hv_V), hv_pk n st → ∃ ps, ps.length = n ∧ st = ps ++ (hv_pop n acc st).2 ∧ (hv_pop n acc st).1 = ps.reverse ++ acc := by
  intro n
  induction n with
  | zero => intro acc st _; exact ⟨[], rfl, rfl, rfl⟩
  | succ n ih =>
    intro acc st h
    cases st with
    | nil => exact h.elim
    | cons v st =>
      obtain ⟨ps, h1, h2, h3⟩ := ih (v :: acc) st h
      refine ⟨v :: ps, by simp [h1], ?_, ?_⟩
      · show v :: st = v :: ps ++ (hv_pop n (v :: acc) st).2
        rw [List.cons_append, ← h2]
      · show (hv_pop n (v :: acc) st).1 = _
        rw [h3]
        simp
def hv_isO (ci : Nat) : List hv_V → Prop
  | .inr (.inr a) :: _ => hh_cls a = ci
  | _ => False
def hv_isS : List hv_V → Prop
  | .inr (.inr a) :: _ => hh_isstr a
  | _ => False
/-- a call: how many words are popped, the receiver's test -/
def hc_callI (l : Launch) (M : hm_M) (d' n : Nat) (T : List hv_V → Prop) (K : hv_K hm) : hv_K hm := fun lo st x =>
  (hv_pk n st ∧ T (hv_pop n [] st).1 ∧ hv_w (hv_pop n [] st).2 ≤ 8) ∧ hm_I l M d' (hv_pop n [] st).1 x (fun r x' => K lo (.inl r :: (hv_pop n [] st).2) x')
def hc_callL (l : Launch) (M : hm_M) (d' n : Nat) (T : List hv_V → Prop) (K : hv_K hm) : hv_K hm := fun lo st x =>
  (hv_pk n st ∧ T (hv_pop n [] st).1 ∧ hv_w (hv_pop n [] st).2 ≤ 8) ∧ hm_L l M d' (hv_pop n [] st).1 x (fun r x' => K lo (.inr (.inl r) :: (hv_pop n [] st).2) x')
def hc_callV (l : Launch) (M : hm_M) (d' n : Nat) (T : List hv_V → Prop) (K : hv_K hm) : hv_K hm := fun lo st x =>
  (hv_pk n st ∧ T (hv_pop n [] st).1 ∧ hv_w (hv_pop n [] st).2 ≤ 8) ∧ hm_V l M d' (hv_pop n [] st).1 x (fun x' => K lo (hv_pop n [] st).2 x')
def hv_any (_ : List hv_V) : Prop := True
def hc_max (K : hv_K hm) : hv_K hm := fun lo st x => match st with
  | .inl b :: .inl a :: t => hv_w t ≤ 8 ∧ K lo (.inl (max a b) :: t) x
  | _ => False
def hc_min (K : hv_K hm) : hv_K hm := fun lo st x => match st with
  | .inl b :: .inl a :: t => hv_w t ≤ 8 ∧ K lo (.inl (min a b) :: t) x
  | _ => False
def hc_abs (K : hv_K hm) : hv_K hm := fun lo st x => match st with
  | .inl a :: t => hv_w t ≤ 8 ∧ hv_I (-a) ∧ K lo (.inl (a.natAbs : Int) :: t) x
  | _ => False
def hc_ireturn (Q : Int → hm → Prop) : hv_K hm := fun _ st x => match st with
  | [.inl z] => Q z x
  | _ => False
def hc_zreturn (Q : Int → hm → Prop) : hv_K hm := fun _ st x => match st with
  | [.inl z] => (z = 0 ∨ z = 1) ∧ Q z x
  | _ => False
/-- a byte or a char is returned: small, not below 0 -/
def hc_creturn (Q : Int → hm → Prop) : hv_K hm := fun _ st x => match st with
  | [.inl z] => (0 ≤ z ∧ z < 128) ∧ Q z x
  | _ => False
def hc_lreturn (Q : Int → hm → Prop) : hv_K hm := fun _ st x => match st with
  | [.inr (.inl z)] => Q z x
  | _ => False
def hc_return (Q : hm → Prop) : hv_K hm := fun _ st x => match st with
  | [] => Q x
  | _ => False
def hv_ent : List hv_V → Nat → hv_L
  | [], n => List.replicate n none
  | .inr (.inl z) :: vs, n + 2 => some (.inr (.inl z)) :: none :: hv_ent vs n
  | v :: vs, n + 1 => some v :: hv_ent vs n
  | _, 0 => []
section HM
variable {p : Program} {l : Launch} {e : Env} {R : Room} {s : State} {m : MethodId} {args : Array Value} {below : List Frame} {meth : Method} {c : Code} {Q : State → Prop} {nL d : Nat} {ρ : Nat → Nat} {D : va_G} {kA : Nat → ClassId} {A : Nat → Prop} {ce0 sl0 : Nat} {cc : ByteArray} {own : String} {pc : Nat} {K Kt Kf : hv_K hm}
theorem hm_blind {av : List Value} {mem : hm} : FrameBlind (va_Pc av (hm_W D ρ kA mem)) := fun a U g mk h => ⟨h.1, h.2.1.same rfl rfl, h.2.2⟩
theorem hh_dom_A {mem : hm} (hD : va_D A (hh_W ρ kA mem)) : ∀ q, hh_dom ρ q → A q := by
  rintro q ⟨c, hc, rfl⟩
  obtain ⟨i, hi⟩ := List.getElem?_of_mem hc
  exact hD.2 i _ (hh_W_at hi)
theorem hh_D_dom {mem : hm} (hD : va_D A (hh_W ρ kA mem)) : va_D (hh_dom ρ) (hh_W ρ kA mem) := by
  refine ⟨hD.1, fun k q hk => ?_⟩
  unfold hh_W at hk
  rw [List.getElem?_map] at hk
  cases hc : hh_cells[k]? with
  | none => rw [hc] at hk; cases hk
  | some c =>
    rw [hc] at hk
    cases hk
    exact ⟨c, List.mem_of_getElem? hc, rfl⟩
theorem hm_W_at {mem : hm} {H : Heap} {locs : List Loc} (X : hx_C p R s m args meth c own cc nL d D ρ kA A ce0 sl0) (hP : va_P D vwCl (hh_W ρ kA mem) H) (hS : va_S A s.heap H locs) (hI : ∀ a, hv_I (mem a)) {U : State} (hU : U.heap = H) (hW : s.WarmedH U.vm) : hm_W D ρ kA mem U := by
  obtain ⟨hx, hb, hml, hown, hts, hroom, hcs, hK, hD, hlk⟩ := X
  refine ⟨(hK.moved hW (fun a h1 h2 => by rw [hU]; exact hS.2.1 a h1 h2)).narrow (hh_dom_A (hD mem)), by rw [hU]; exact hP, fun mem' => hh_D_dom (hD mem'), hI⟩
theorem hs_max {index : Nat} (X : hx_C p R s m args meth c own cc nL d D ρ kA A ce0 sl0) (h1 : Cond.methodLink own index Lib.Math.max.name ∈ hh_ws) (h2 : Cond.static Lib.Math.max.name ∈ hh_ws) (h3 : Cond.initialized "java/lang/Math" ∈ hh_ws) (h4 : Cond.code Lib.Math.max.name Lib.Math.max.code 2 (some .int) ∈ hh_ws) (hd1 : 1 ≤ d) (hd : decode cc pc = .ok (.invokestatic index, 3)) (hK : hw_S p l e R s m args below meth c Q nL ρ (hp_P D ρ kA A s.heap ce0 sl0) (K) (pc + 3)) : hw_S p l e R s m args below meth c Q nL ρ (hp_P D ρ kA A s.heap ce0 sl0) (hc_max K) (pc) := by
  obtain ⟨hx, hb, hml, hown, hts, hroom, hcs, -, hD, hlk⟩ := id X
  intro lo st x h
  unfold hc_max at h
  split at h
  · rename_i b a t
    intro hst hlo H locs ce sl ls hP0 hl
    obtain ⟨hP, hS, hI, rfl, rfl⟩ := id hP0
    have oa := (hv_oks_cons.mp (hv_oks_cons.mp hst).2).1
    have ob := (hv_oks_cons.mp hst).1
    refine va_mmax hx hb (hml.trans hl.1.symm) hown (hts _ h1) (hts _ h2) (hts _ h3) (hts _ h4) (Nat.le_trans hd1 hroom.1) ?_ hcs.1 hcs.2 hd ?_
    · rw [hv_w_eq]
      have := hroom.2
      omega
    · have z := hK _ _ _ h.2 (hv_oks_cons.mpr ⟨(show hv_I (max a b) from ⟨by have := oa.1; omega, by have := oa.2; have := ob.2; omega⟩), (hv_oks_cons.mp (hv_oks_cons.mp hst).2).2⟩) hlo H locs ce sl ls hP0 hl
      have e : (if Int32.ofInt a < Int32.ofInt b then Int32.ofInt b else Int32.ofInt a) = Int32.ofInt (max a b) := by
        by_cases hab : a < b
        · rw [if_pos ((hi_lt oa ob).mpr hab)]; congr 1; omega
        · rw [if_neg (fun q => hab ((hi_lt oa ob).mp q))]; congr 1; omega
      rw [e]
      exact z
  · exact h.elim
theorem hs_min {index : Nat} (X : hx_C p R s m args meth c own cc nL d D ρ kA A ce0 sl0) (h1 : Cond.methodLink own index Lib.Math.min.name ∈ hh_ws) (h2 : Cond.static Lib.Math.min.name ∈ hh_ws) (h3 : Cond.initialized "java/lang/Math" ∈ hh_ws) (h4 : Cond.code Lib.Math.min.name Lib.Math.min.code 2 (some .int) ∈ hh_ws) (hd1 : 1 ≤ d) (hd : decode cc pc = .ok (.invokestatic index, 3)) (hK : hw_S p l e R s m args below meth c Q nL ρ (hp_P D ρ kA A s.heap ce0 sl0) (K) (pc + 3)) : hw_S p l e R s m args below meth c Q nL ρ (hp_P D ρ kA A s.heap ce0 sl0) (hc_min K) (pc) := by
  obtain ⟨hx, hb, hml, hown, hts, hroom, hcs, -, hD, hlk⟩ := id X
  intro lo st x h
  unfold hc_min at h
  split at h
  · rename_i b a t
    intro hst hlo H locs ce sl ls hP0 hl
    obtain ⟨hP, hS, hI, rfl, rfl⟩ := id hP0
    have oa := (hv_oks_cons.mp (hv_oks_cons.mp hst).2).1
    have ob := (hv_oks_cons.mp hst).1
    have z := hK _ _ _ h.2 (hv_oks_cons.mpr ⟨(show hv_I (min a b) from ⟨by have := oa.1; have := ob.1; omega, by have := oa.2; omega⟩), (hv_oks_cons.mp (hv_oks_cons.mp hst).2).2⟩) hlo H locs ce sl ls hP0 hl
    refine va_mmin hx hb (hml.trans hl.1.symm) hown (hts _ h1) (hts _ h2) (hts _ h3) (hts _ h4) (Nat.le_trans hd1 hroom.1) ?_ hcs.1 hcs.2 hd ?_
    · rw [hv_w_eq]
      have := hroom.2
      omega
    · refine Eq.mp ?_ z
      simp only [List.map_cons, hv_t]
      congr 4
      by_cases hab : a < b
      · have h9 := (hi_lt oa ob).mpr hab
        have h8 := Int32.lt_iff_toInt_lt.mp h9
        have e : min a b = a := by omega
        rw [e]
        first | rw [if_pos h9] | (rw [if_neg (fun q => by have := (hi_lt ob oa).mp q; omega)])
      · have h9 : ¬ Int32.ofInt a < Int32.ofInt b := fun q => hab ((hi_lt oa ob).mp q)
        have e : min a b = b := by omega
        rw [e]
        first | rw [if_neg h9] | (by_cases hba : b < a; (rw [if_pos ((hi_lt ob oa).mpr hba)]); (have hz : a = b := by omega); (subst hz; rw [ite_self]))
  · exact h.elim
theorem hs_abs {index : Nat} (X : hx_C p R s m args meth c own cc nL d D ρ kA A ce0 sl0) (h1 : Cond.methodLink own index Lib.Math.abs.name ∈ hh_ws) (h2 : Cond.static Lib.Math.abs.name ∈ hh_ws) (h3 : Cond.initialized "java/lang/Math" ∈ hh_ws) (h4 : Cond.code Lib.Math.abs.name Lib.Math.abs.code 1 (some .int) ∈ hh_ws) (hd1 : 1 ≤ d) (hd : decode cc pc = .ok (.invokestatic index, 3)) (hK : hw_S p l e R s m args below meth c Q nL ρ (hp_P D ρ kA A s.heap ce0 sl0) (K) (pc + 3)) : hw_S p l e R s m args below meth c Q nL ρ (hp_P D ρ kA A s.heap ce0 sl0) (hc_abs K) (pc) := by
  obtain ⟨hx, hb, hml, hown, hts, hroom, hcs, -, hD, hlk⟩ := id X
  intro lo st x h
  unfold hc_abs at h
  split at h
  · rename_i a t
    intro hst hlo H locs ce sl ls hP0 hl
    obtain ⟨hP, hS, hI, rfl, rfl⟩ := id hP0
    have oa := (hv_oks_cons.mp hst).1
    have z := hK _ _ _ h.2.2 (hv_oks_cons.mpr ⟨(show hv_I (a.natAbs : Int) from ⟨by omega, by have := oa.2; have := h.2.1.2; omega⟩), (hv_oks_cons.mp hst).2⟩) hlo H locs ce sl ls hP0 hl
    refine va_mabs hx hb (hml.trans hl.1.symm) hown (hts _ h1) (hts _ h2) (hts _ h3) (hts _ h4) (Nat.le_trans hd1 hroom.1) ?_ hcs.1 hcs.2 hd ?_
    · rw [hv_w_eq]
      have := hroom.2
      omega
    · have e : (if 0 ≤ Int32.ofInt a then Int32.ofInt a else 0 - Int32.ofInt a) = Int32.ofInt (a.natAbs : Int) := by
        by_cases ha : 0 ≤ a
        · rw [hi_z, if_pos ((hi_le hi_0 oa).mpr ha)]; congr 1; omega
        · rw [hi_z, if_neg (fun q => ha ((hi_le hi_0 oa).mp q)), hi_sub]; congr 1; omega
      rw [e]
      exact z
  · exact h.elim
theorem hs_callIV (X : hx_C p R s m args meth c own cc nL d D ρ kA A ce0 sl0) {M : hm_M} {d2 n ci index : Nat} {F : u_T} {N : Nat} {ty0 : Nat → FieldType} (hcf : hh_CF ci M.1.cls F N ty0) (hO : hm_OV M n) (hlk2 : Cond.methodLink own index M.1 ∈ hh_ws) (hd2 : d2 < d) (hd : decode cc pc = .ok (.invokevirtual index, 3)) (hK : hw_S p l e R s m args below meth c Q nL ρ (hp_P D ρ kA A s.heap ce0 sl0) (K) (pc + 3)) : hw_S p l e R s m args below meth c Q nL ρ (hp_P D ρ kA A s.heap ce0 sl0) (hc_callI l M d2 (n + 1) (hv_isO ci) K) (pc) := by
  obtain ⟨hx, hb, hml, hown, hts, hroom, hcs, hK0, hD, hlk⟩ := id X
  intro lo st x h
  unfold hc_callI at h
  intro hst hlo H locs ce sl ls hP0 hl
  obtain ⟨hP, hS, hI, rfl, rfl⟩ := id hP0
  obtain ⟨⟨h1, h2, h3⟩, h4⟩ := h
  obtain ⟨ps, g1, g2, g3⟩ := hv_pop_spec (n + 1) [] st h1
  generalize (hv_pop (n + 1) [] st).1 = av at h2 h4 g3
  generalize (hv_pop (n + 1) [] st).2 = rest at h3 h4 g2
  rw [List.append_nil] at g3
  subst g3
  subst g2
  have hoks : hv_oks ps.reverse := fun v hv => hst v (List.mem_append_left _ (List.mem_reverse.mp hv))
  have hokr : hv_oks rest := fun v hv => hst v (List.mem_append_right _ hv)
  have hpre : ∀ U : State, U.heap = H → s.WarmedH U.vm → va_Pc (ps.reverse.map (hv_t ρ)) (hm_W D ρ kA x) (ps.reverse.map (hv_t ρ)).toArray U := fun U hU hW => ⟨rfl, hm_W_at X hP hS hI hU hW⟩
  have hM := h4 D ρ kA hoks
  have hR : (hm_rm d2).frames + 1 ≤ R.frames ∧ 8 + (M.2.2.1 + 11) + (hm_rm d2).locals ≤ R.locals := ⟨Nat.le_trans hd2 hroom.1, by have := hroom.2; have := hO.2.2; show 8 + (M.2.2.1 + 11) + 60 * d2 ≤ R.locals; omega⟩
  have hG : GoodIn hh_ws (hm_ws M) := hh_goodIn (fun w hw => by rcases List.mem_cons.mp hw with rfl | hw; exact hO.1.2.2.2; exact hw)
  have hrev : ∃ (a : Nat) (as : List hv_V), ps.reverse = .inr (.inr a) :: as ∧ hh_cls a = ci := by
    cases hq : ps.reverse with
    | nil => rw [hq] at h2; exact h2.elim
    | cons v as =>
      rw [hq] at h2
      rcases v with z | z | a
      · exact h2.elim
      · exact h2.elim
      · exact ⟨a, as, rfl, h2⟩
  obtain ⟨a, as, ha, hca⟩ := hrev
  have hps : ps = as.reverse ++ [.inr (.inr a)] := by rw [← List.reverse_reverse ps, ha]; simp
  rw [ha] at hM hpre hoks
  have hn : (as.map (hv_t ρ)).length = n := by have := congrArg List.length ha; simp [g1] at this; simp; omega
  have hrc : ∃ cell : Cell, H[ρ a]? = some cell ∧ cell.vm.isStatics = false ∧ s.vm.findClass M.1.cls = some cell.cls := by
    obtain ⟨q, hq, -⟩ := hh_of_cls hca hcf.2.2.2.2.1
    exact va_recv hK0.1 hP hcf.1 (hh_W_at (ρ := ρ) (kA := kA) (mem := x) hq)
  have hstk : (F0 m pc ls ((ps ++ rest).map (hv_t ρ))).stack = (as.map (hv_t ρ)).reverse ++ .ref (ρ a) :: rest.map (hv_t ρ) := by rw [hps]; simp [hv_t]
  refine va_calli (va_runV (b := ρ a) (As := as.map (hv_t ρ)) (rest := rest.map (hv_t ρ)) ⟨hx, hb, hml, hown, hts⟩ hM ⟨callB_of n hts hG rfl rfl rfl (hts _ hO.1.2.2.1) (hts _ hlk2) hO.2.1 hR, hts _ hO.1.1, hts _ hO.1.2.1⟩ ⟨hm_blind, hrc, hpre⟩ rfl hn hl.1 hstk (lv_room (by rw [hv_w_eq]; exact h3)) hd ⟨hcs.1, hcs.2⟩) hS (fun q _ h => hh_dom_A (hD x) q h) (hh_dom_A (hD x)) (fun r u t H1 locs1 ht hvm hp hB hz1 hk1 hS1 => ?_)
  have hP1 : va_P D vwCl (hh_W ρ kA u) H1 := by rw [← ht]; exact hB.2.1
  have z := hK _ _ _ hp (hv_oks_cons.mpr ⟨hi_ok r, hokr⟩) hlo H1 locs1 ce sl ls ⟨hP1, hS1, hB.2.2.2, rfl, rfl⟩ hl
  simp only [List.map_cons, hv_t, hi_self] at z
  exact z
theorem hs_callIVN (X : hx_C p R s m args meth c own cc nL d D ρ kA A ce0 sl0) {M : hm_M} {d2 n ci index : Nat} {F : u_T} {N : Nat} {ty0 : Nat → FieldType} (hcf : hh_CF ci M.1.cls F N ty0) (hO : hm_OV M n) {host : String} (hlk2 : Cond.methodLinkNest own index M.1 host ∈ hh_nw) (hd2 : d2 < d) (hd : decode cc pc = .ok (.invokevirtual index, 3)) (hK : hw_S p l e R s m args below meth c Q nL ρ (hp_P D ρ kA A s.heap ce0 sl0) (K) (pc + 3)) : hw_S p l e R s m args below meth c Q nL ρ (hp_P D ρ kA A s.heap ce0 sl0) (hc_callI l M d2 (n + 1) (hv_isO ci) K) (pc) := by
  obtain ⟨hx, hb, hml, hown, hts, hroom, hcs, hK0, hD, hlk⟩ := id X
  intro lo st x h
  unfold hc_callI at h
  intro hst hlo H locs ce sl ls hP0 hl
  obtain ⟨hP, hS, hI, rfl, rfl⟩ := id hP0
  obtain ⟨⟨h1, h2, h3⟩, h4⟩ := h
  obtain ⟨ps, g1, g2, g3⟩ := hv_pop_spec (n + 1) [] st h1
  generalize (hv_pop (n + 1) [] st).1 = av at h2 h4 g3
  generalize (hv_pop (n + 1) [] st).2 = rest at h3 h4 g2
  rw [List.append_nil] at g3
  subst g3
  subst g2
  have hoks : hv_oks ps.reverse := fun v hv => hst v (List.mem_append_left _ (List.mem_reverse.mp hv))
  have hokr : hv_oks rest := fun v hv => hst v (List.mem_append_right _ hv)
  have hpre : ∀ U : State, U.heap = H → s.WarmedH U.vm → va_Pc (ps.reverse.map (hv_t ρ)) (hm_W D ρ kA x) (ps.reverse.map (hv_t ρ)).toArray U := fun U hU hW => ⟨rfl, hm_W_at X hP hS hI hU hW⟩
  have hM := h4 D ρ kA hoks
  have hR : (hm_rm d2).frames + 1 ≤ R.frames ∧ 8 + (M.2.2.1 + 11) + (hm_rm d2).locals ≤ R.locals := ⟨Nat.le_trans hd2 hroom.1, by have := hroom.2; have := hO.2.2; show 8 + (M.2.2.1 + 11) + 60 * d2 ≤ R.locals; omega⟩
  have hG : GoodIn hh_ws (hm_ws M) := hh_goodIn (fun w hw => by rcases List.mem_cons.mp hw with rfl | hw; exact hO.1.2.2.2; exact hw)
  have hrev : ∃ (a : Nat) (as : List hv_V), ps.reverse = .inr (.inr a) :: as ∧ hh_cls a = ci := by
    cases hq : ps.reverse with
    | nil => rw [hq] at h2; exact h2.elim
    | cons v as =>
      rw [hq] at h2
      rcases v with z | z | a
      · exact h2.elim
      · exact h2.elim
      · exact ⟨a, as, rfl, h2⟩
  obtain ⟨a, as, ha, hca⟩ := hrev
  have hps : ps = as.reverse ++ [.inr (.inr a)] := by rw [← List.reverse_reverse ps, ha]; simp
  rw [ha] at hM hpre hoks
  have hn : (as.map (hv_t ρ)).length = n := by have := congrArg List.length ha; simp [g1] at this; simp; omega
  have hrc : ∃ cell : Cell, H[ρ a]? = some cell ∧ cell.vm.isStatics = false ∧ s.vm.findClass M.1.cls = some cell.cls := by
    obtain ⟨q, hq, -⟩ := hh_of_cls hca hcf.2.2.2.2.1
    exact va_recv hK0.1 hP hcf.1 (hh_W_at (ρ := ρ) (kA := kA) (mem := x) hq)
  have hnw := hK0.2.1
  have hstk : (F0 m pc ls ((ps ++ rest).map (hv_t ρ))).stack = (as.map (hv_t ρ)).reverse ++ .ref (ρ a) :: rest.map (hv_t ρ) := by rw [hps]; simp [hv_t]
  refine va_calli (va_runVN (b := ρ a) (As := as.map (hv_t ρ)) (rest := rest.map (hv_t ρ)) ⟨hx, hb, hml, hown, hts⟩ hM ⟨va_cnB n hts hG rfl rfl rfl (hnw _ hlk2) (hts _ hO.1.2.2.1) hO.2.1 hR, hts _ hO.1.1, hts _ hO.1.2.1⟩ ⟨hm_blind, hrc, hpre⟩ rfl hn hl.1 hstk (lv_room (by rw [hv_w_eq]; exact h3)) hd ⟨hcs.1, hcs.2⟩) hS (fun q _ h => hh_dom_A (hD x) q h) (hh_dom_A (hD x)) (fun r u t H1 locs1 ht hvm hp hB hz1 hk1 hS1 => ?_)
  have hP1 : va_P D vwCl (hh_W ρ kA u) H1 := by rw [← ht]; exact hB.2.1
  have z := hK _ _ _ hp (hv_oks_cons.mpr ⟨hi_ok r, hokr⟩) hlo H1 locs1 ce sl ls ⟨hP1, hS1, hB.2.2.2, rfl, rfl⟩ hl
  simp only [List.map_cons, hv_t, hi_self] at z
  exact z
theorem hs_callIS (X : hx_C p R s m args meth c own cc nL d D ρ kA A ce0 sl0) {M : hm_M} {d2 n ci index : Nat} (hO : hm_OS M n) (hlk2 : Cond.methodLink own index M.1 ∈ hh_ws) (hd2 : d2 < d) (hd : decode cc pc = .ok (.invokestatic index, 3)) (hK : hw_S p l e R s m args below meth c Q nL ρ (hp_P D ρ kA A s.heap ce0 sl0) (K) (pc + 3)) : hw_S p l e R s m args below meth c Q nL ρ (hp_P D ρ kA A s.heap ce0 sl0) (hc_callI l M d2 n hv_any K) (pc) := by
  obtain ⟨hx, hb, hml, hown, hts, hroom, hcs, hK0, hD, hlk⟩ := id X
  intro lo st x h
  unfold hc_callI at h
  intro hst hlo H locs ce sl ls hP0 hl
  obtain ⟨hP, hS, hI, rfl, rfl⟩ := id hP0
  obtain ⟨⟨h1, h2, h3⟩, h4⟩ := h
  obtain ⟨ps, g1, g2, g3⟩ := hv_pop_spec n [] st h1
  generalize (hv_pop n [] st).1 = av at h2 h4 g3
  generalize (hv_pop n [] st).2 = rest at h3 h4 g2
  rw [List.append_nil] at g3
  subst g3
  subst g2
  have hoks : hv_oks ps.reverse := fun v hv => hst v (List.mem_append_left _ (List.mem_reverse.mp hv))
  have hokr : hv_oks rest := fun v hv => hst v (List.mem_append_right _ hv)
  have hpre : ∀ U : State, U.heap = H → s.WarmedH U.vm → va_Pc (ps.reverse.map (hv_t ρ)) (hm_W D ρ kA x) (ps.reverse.map (hv_t ρ)).toArray U := fun U hU hW => ⟨rfl, hm_W_at X hP hS hI hU hW⟩
  have hM := h4 D ρ kA hoks
  have hR : (hm_rm d2).frames + 1 ≤ R.frames ∧ 8 + (M.2.2.1 + 11) + (hm_rm d2).locals ≤ R.locals := ⟨Nat.le_trans hd2 hroom.1, by have := hroom.2; have := hO.2.2; show 8 + (M.2.2.1 + 11) + 60 * d2 ≤ R.locals; omega⟩
  have hG : GoodIn hh_ws (hm_ws M) := hh_goodIn (fun w hw => by rcases List.mem_cons.mp hw with rfl | hw; exact hO.1.2.2; exact hw)
  have hn : (ps.reverse.map (hv_t ρ)).length = n := by simp [g1]
  have hstk : (F0 m pc ls ((ps ++ rest).map (hv_t ρ))).stack = (ps.reverse.map (hv_t ρ)).reverse ++ rest.map (hv_t ρ) := by simp
  refine va_calli (va_runS (As := ps.reverse.map (hv_t ρ)) (rest := rest.map (hv_t ρ)) ⟨hx, hb, hml, hown, hts⟩ hM ⟨callB_of n hts hG rfl rfl rfl (hts _ hO.1.2.1) (hts _ hlk2) hO.2.1 hR, hts _ hO.1.1⟩ ⟨hm_blind, hpre⟩ rfl hn hl.1 hstk (lv_room (by rw [hv_w_eq]; exact h3)) hd ⟨hcs.1, hcs.2⟩) hS (fun q _ h => hh_dom_A (hD x) q h) (hh_dom_A (hD x)) (fun r u t H1 locs1 ht hvm hp hB hz1 hk1 hS1 => ?_)
  have hP1 : va_P D vwCl (hh_W ρ kA u) H1 := by rw [← ht]; exact hB.2.1
  have z := hK _ _ _ hp (hv_oks_cons.mpr ⟨hi_ok r, hokr⟩) hlo H1 locs1 ce sl ls ⟨hP1, hS1, hB.2.2.2, rfl, rfl⟩ hl
  simp only [List.map_cons, hv_t, hi_self] at z
  exact z
theorem hs_callISN (X : hx_C p R s m args meth c own cc nL d D ρ kA A ce0 sl0) {M : hm_M} {d2 n ci index : Nat} (hO : hm_OS M n) {host : String} (hlk2 : Cond.methodLinkNest own index M.1 host ∈ hh_nw) (hd2 : d2 < d) (hd : decode cc pc = .ok (.invokestatic index, 3)) (hK : hw_S p l e R s m args below meth c Q nL ρ (hp_P D ρ kA A s.heap ce0 sl0) (K) (pc + 3)) : hw_S p l e R s m args below meth c Q nL ρ (hp_P D ρ kA A s.heap ce0 sl0) (hc_callI l M d2 n hv_any K) (pc) := by
  obtain ⟨hx, hb, hml, hown, hts, hroom, hcs, hK0, hD, hlk⟩ := id X
  intro lo st x h
  unfold hc_callI at h
  intro hst hlo H locs ce sl ls hP0 hl
  obtain ⟨hP, hS, hI, rfl, rfl⟩ := id hP0
  obtain ⟨⟨h1, h2, h3⟩, h4⟩ := h
  obtain ⟨ps, g1, g2, g3⟩ := hv_pop_spec n [] st h1
  generalize (hv_pop n [] st).1 = av at h2 h4 g3
  generalize (hv_pop n [] st).2 = rest at h3 h4 g2
  rw [List.append_nil] at g3
  subst g3
  subst g2
  have hoks : hv_oks ps.reverse := fun v hv => hst v (List.mem_append_left _ (List.mem_reverse.mp hv))
  have hokr : hv_oks rest := fun v hv => hst v (List.mem_append_right _ hv)
  have hpre : ∀ U : State, U.heap = H → s.WarmedH U.vm → va_Pc (ps.reverse.map (hv_t ρ)) (hm_W D ρ kA x) (ps.reverse.map (hv_t ρ)).toArray U := fun U hU hW => ⟨rfl, hm_W_at X hP hS hI hU hW⟩
  have hM := h4 D ρ kA hoks
  have hR : (hm_rm d2).frames + 1 ≤ R.frames ∧ 8 + (M.2.2.1 + 11) + (hm_rm d2).locals ≤ R.locals := ⟨Nat.le_trans hd2 hroom.1, by have := hroom.2; have := hO.2.2; show 8 + (M.2.2.1 + 11) + 60 * d2 ≤ R.locals; omega⟩
  have hG : GoodIn hh_ws (hm_ws M) := hh_goodIn (fun w hw => by rcases List.mem_cons.mp hw with rfl | hw; exact hO.1.2.2; exact hw)
  have hn : (ps.reverse.map (hv_t ρ)).length = n := by simp [g1]
  have hnw := hK0.2.1
  have hstk : (F0 m pc ls ((ps ++ rest).map (hv_t ρ))).stack = (ps.reverse.map (hv_t ρ)).reverse ++ rest.map (hv_t ρ) := by simp
  refine va_calli (va_runSN (As := ps.reverse.map (hv_t ρ)) (rest := rest.map (hv_t ρ)) ⟨hx, hb, hml, hown, hts⟩ hM ⟨va_cnB n hts hG rfl rfl rfl (hnw _ hlk2) (hts _ hO.1.2.1) hO.2.1 hR, hts _ hO.1.1, trivial⟩ ⟨hm_blind, hpre⟩ rfl hn hl.1 hstk (lv_room (by rw [hv_w_eq]; exact h3)) hd ⟨hcs.1, hcs.2⟩) hS (fun q _ h => hh_dom_A (hD x) q h) (hh_dom_A (hD x)) (fun r u t H1 locs1 ht hvm hp hB hz1 hk1 hS1 => ?_)
  have hP1 : va_P D vwCl (hh_W ρ kA u) H1 := by rw [← ht]; exact hB.2.1
  have z := hK _ _ _ hp (hv_oks_cons.mpr ⟨hi_ok r, hokr⟩) hlo H1 locs1 ce sl ls ⟨hP1, hS1, hB.2.2.2, rfl, rfl⟩ hl
  simp only [List.map_cons, hv_t, hi_self] at z
  exact z
theorem hs_callVV (X : hx_C p R s m args meth c own cc nL d D ρ kA A ce0 sl0) {M : hm_M} {d2 n ci index : Nat} {F : u_T} {N : Nat} {ty0 : Nat → FieldType} (hcf : hh_CF ci M.1.cls F N ty0) (hO : hm_OV M n) (hlk2 : Cond.methodLink own index M.1 ∈ hh_ws) (hd2 : d2 < d) (hd : decode cc pc = .ok (.invokevirtual index, 3)) (hK : hw_S p l e R s m args below meth c Q nL ρ (hp_P D ρ kA A s.heap ce0 sl0) (K) (pc + 3)) : hw_S p l e R s m args below meth c Q nL ρ (hp_P D ρ kA A s.heap ce0 sl0) (hc_callV l M d2 (n + 1) (hv_isO ci) K) (pc) := by
  obtain ⟨hx, hb, hml, hown, hts, hroom, hcs, hK0, hD, hlk⟩ := id X
  intro lo st x h
  unfold hc_callV at h
  intro hst hlo H locs ce sl ls hP0 hl
  obtain ⟨hP, hS, hI, rfl, rfl⟩ := id hP0
  obtain ⟨⟨h1, h2, h3⟩, h4⟩ := h
  obtain ⟨ps, g1, g2, g3⟩ := hv_pop_spec (n + 1) [] st h1
  generalize (hv_pop (n + 1) [] st).1 = av at h2 h4 g3
  generalize (hv_pop (n + 1) [] st).2 = rest at h3 h4 g2
  rw [List.append_nil] at g3
  subst g3
  subst g2
  have hoks : hv_oks ps.reverse := fun v hv => hst v (List.mem_append_left _ (List.mem_reverse.mp hv))
  have hokr : hv_oks rest := fun v hv => hst v (List.mem_append_right _ hv)
  have hpre : ∀ U : State, U.heap = H → s.WarmedH U.vm → va_Pc (ps.reverse.map (hv_t ρ)) (hm_W D ρ kA x) (ps.reverse.map (hv_t ρ)).toArray U := fun U hU hW => ⟨rfl, hm_W_at X hP hS hI hU hW⟩
  have hM := h4 D ρ kA hoks
  have hR : (hm_rm d2).frames + 1 ≤ R.frames ∧ 8 + (M.2.2.1 + 11) + (hm_rm d2).locals ≤ R.locals := ⟨Nat.le_trans hd2 hroom.1, by have := hroom.2; have := hO.2.2; show 8 + (M.2.2.1 + 11) + 60 * d2 ≤ R.locals; omega⟩
  have hG : GoodIn hh_ws (hm_ws M) := hh_goodIn (fun w hw => by rcases List.mem_cons.mp hw with rfl | hw; exact hO.1.2.2.2; exact hw)
  have hrev : ∃ (a : Nat) (as : List hv_V), ps.reverse = .inr (.inr a) :: as ∧ hh_cls a = ci := by
    cases hq : ps.reverse with
    | nil => rw [hq] at h2; exact h2.elim
    | cons v as =>
      rw [hq] at h2
      rcases v with z | z | a
      · exact h2.elim
      · exact h2.elim
      · exact ⟨a, as, rfl, h2⟩
  obtain ⟨a, as, ha, hca⟩ := hrev
  have hps : ps = as.reverse ++ [.inr (.inr a)] := by rw [← List.reverse_reverse ps, ha]; simp
  rw [ha] at hM hpre hoks
  have hn : (as.map (hv_t ρ)).length = n := by have := congrArg List.length ha; simp [g1] at this; simp; omega
  have hrc : ∃ cell : Cell, H[ρ a]? = some cell ∧ cell.vm.isStatics = false ∧ s.vm.findClass M.1.cls = some cell.cls := by
    obtain ⟨q, hq, -⟩ := hh_of_cls hca hcf.2.2.2.2.1
    exact va_recv hK0.1 hP hcf.1 (hh_W_at (ρ := ρ) (kA := kA) (mem := x) hq)
  have hstk : (F0 m pc ls ((ps ++ rest).map (hv_t ρ))).stack = (as.map (hv_t ρ)).reverse ++ .ref (ρ a) :: rest.map (hv_t ρ) := by rw [hps]; simp [hv_t]
  refine va_callv (va_runV (b := ρ a) (As := as.map (hv_t ρ)) (rest := rest.map (hv_t ρ)) ⟨hx, hb, hml, hown, hts⟩ hM ⟨callB_of n hts hG rfl rfl rfl (hts _ hO.1.2.2.1) (hts _ hlk2) hO.2.1 hR, hts _ hO.1.1, hts _ hO.1.2.1⟩ ⟨hm_blind, hrc, hpre⟩ rfl hn hl.1 hstk (lv_room (by rw [hv_w_eq]; exact h3)) hd ⟨hcs.1, hcs.2⟩) hS (fun q _ h => hh_dom_A (hD x) q h) (hh_dom_A (hD x)) (fun u t H1 locs1 ht hvm hp hB hz1 hk1 hS1 => ?_)
  have hP1 : va_P D vwCl (hh_W ρ kA u) H1 := by rw [← ht]; exact hB.2.1
  exact hK _ _ _ hp hokr hlo H1 locs1 ce sl ls ⟨hP1, hS1, hB.2.2.2, rfl, rfl⟩ hl
theorem hs_callVVN (X : hx_C p R s m args meth c own cc nL d D ρ kA A ce0 sl0) {M : hm_M} {d2 n ci index : Nat} {F : u_T} {N : Nat} {ty0 : Nat → FieldType} (hcf : hh_CF ci M.1.cls F N ty0) (hO : hm_OV M n) {host : String} (hlk2 : Cond.methodLinkNest own index M.1 host ∈ hh_nw) (hd2 : d2 < d) (hd : decode cc pc = .ok (.invokevirtual index, 3)) (hK : hw_S p l e R s m args below meth c Q nL ρ (hp_P D ρ kA A s.heap ce0 sl0) (K) (pc + 3)) : hw_S p l e R s m args below meth c Q nL ρ (hp_P D ρ kA A s.heap ce0 sl0) (hc_callV l M d2 (n + 1) (hv_isO ci) K) (pc) := by
  obtain ⟨hx, hb, hml, hown, hts, hroom, hcs, hK0, hD, hlk⟩ := id X
  intro lo st x h
  unfold hc_callV at h
  intro hst hlo H locs ce sl ls hP0 hl
  obtain ⟨hP, hS, hI, rfl, rfl⟩ := id hP0
  obtain ⟨⟨h1, h2, h3⟩, h4⟩ := h
  obtain ⟨ps, g1, g2, g3⟩ := hv_pop_spec (n + 1) [] st h1
  generalize (hv_pop (n + 1) [] st).1 = av at h2 h4 g3
  generalize (hv_pop (n + 1) [] st).2 = rest at h3 h4 g2
  rw [List.append_nil] at g3
  subst g3
  subst g2
  have hoks : hv_oks ps.reverse := fun v hv => hst v (List.mem_append_left _ (List.mem_reverse.mp hv))
  have hokr : hv_oks rest := fun v hv => hst v (List.mem_append_right _ hv)
  have hpre : ∀ U : State, U.heap = H → s.WarmedH U.vm → va_Pc (ps.reverse.map (hv_t ρ)) (hm_W D ρ kA x) (ps.reverse.map (hv_t ρ)).toArray U := fun U hU hW => ⟨rfl, hm_W_at X hP hS hI hU hW⟩
  have hM := h4 D ρ kA hoks
  have hR : (hm_rm d2).frames + 1 ≤ R.frames ∧ 8 + (M.2.2.1 + 11) + (hm_rm d2).locals ≤ R.locals := ⟨Nat.le_trans hd2 hroom.1, by have := hroom.2; have := hO.2.2; show 8 + (M.2.2.1 + 11) + 60 * d2 ≤ R.locals; omega⟩
  have hG : GoodIn hh_ws (hm_ws M) := hh_goodIn (fun w hw => by rcases List.mem_cons.mp hw with rfl | hw; exact hO.1.2.2.2; exact hw)
  have hrev : ∃ (a : Nat) (as : List hv_V), ps.reverse = .inr (.inr a) :: as ∧ hh_cls a = ci := by
    cases hq : ps.reverse with
    | nil => rw [hq] at h2; exact h2.elim
    | cons v as =>
      rw [hq] at h2
      rcases v with z | z | a
      · exact h2.elim
      · exact h2.elim
      · exact ⟨a, as, rfl, h2⟩
  obtain ⟨a, as, ha, hca⟩ := hrev
  have hps : ps = as.reverse ++ [.inr (.inr a)] := by rw [← List.reverse_reverse ps, ha]; simp
  rw [ha] at hM hpre hoks
  have hn : (as.map (hv_t ρ)).length = n := by have := congrArg List.length ha; simp [g1] at this; simp; omega
  have hrc : ∃ cell : Cell, H[ρ a]? = some cell ∧ cell.vm.isStatics = false ∧ s.vm.findClass M.1.cls = some cell.cls := by
    obtain ⟨q, hq, -⟩ := hh_of_cls hca hcf.2.2.2.2.1
    exact va_recv hK0.1 hP hcf.1 (hh_W_at (ρ := ρ) (kA := kA) (mem := x) hq)
  have hnw := hK0.2.1
  have hstk : (F0 m pc ls ((ps ++ rest).map (hv_t ρ))).stack = (as.map (hv_t ρ)).reverse ++ .ref (ρ a) :: rest.map (hv_t ρ) := by rw [hps]; simp [hv_t]
  refine va_callv (va_runVN (b := ρ a) (As := as.map (hv_t ρ)) (rest := rest.map (hv_t ρ)) ⟨hx, hb, hml, hown, hts⟩ hM ⟨va_cnB n hts hG rfl rfl rfl (hnw _ hlk2) (hts _ hO.1.2.2.1) hO.2.1 hR, hts _ hO.1.1, hts _ hO.1.2.1⟩ ⟨hm_blind, hrc, hpre⟩ rfl hn hl.1 hstk (lv_room (by rw [hv_w_eq]; exact h3)) hd ⟨hcs.1, hcs.2⟩) hS (fun q _ h => hh_dom_A (hD x) q h) (hh_dom_A (hD x)) (fun u t H1 locs1 ht hvm hp hB hz1 hk1 hS1 => ?_)
  have hP1 : va_P D vwCl (hh_W ρ kA u) H1 := by rw [← ht]; exact hB.2.1
  exact hK _ _ _ hp hokr hlo H1 locs1 ce sl ls ⟨hP1, hS1, hB.2.2.2, rfl, rfl⟩ hl
theorem hs_callVS (X : hx_C p R s m args meth c own cc nL d D ρ kA A ce0 sl0) {M : hm_M} {d2 n ci index : Nat} (hO : hm_OS M n) (hlk2 : Cond.methodLink own index M.1 ∈ hh_ws) (hd2 : d2 < d) (hd : decode cc pc = .ok (.invokestatic index, 3)) (hK : hw_S p l e R s m args below meth c Q nL ρ (hp_P D ρ kA A s.heap ce0 sl0) (K) (pc + 3)) : hw_S p l e R s m args below meth c Q nL ρ (hp_P D ρ kA A s.heap ce0 sl0) (hc_callV l M d2 n hv_any K) (pc) := by
  obtain ⟨hx, hb, hml, hown, hts, hroom, hcs, hK0, hD, hlk⟩ := id X
  intro lo st x h
  unfold hc_callV at h
  intro hst hlo H locs ce sl ls hP0 hl
  obtain ⟨hP, hS, hI, rfl, rfl⟩ := id hP0
  obtain ⟨⟨h1, h2, h3⟩, h4⟩ := h
  obtain ⟨ps, g1, g2, g3⟩ := hv_pop_spec n [] st h1
  generalize (hv_pop n [] st).1 = av at h2 h4 g3
  generalize (hv_pop n [] st).2 = rest at h3 h4 g2
  rw [List.append_nil] at g3
  subst g3
  subst g2
  have hoks : hv_oks ps.reverse := fun v hv => hst v (List.mem_append_left _ (List.mem_reverse.mp hv))
  have hokr : hv_oks rest := fun v hv => hst v (List.mem_append_right _ hv)
  have hpre : ∀ U : State, U.heap = H → s.WarmedH U.vm → va_Pc (ps.reverse.map (hv_t ρ)) (hm_W D ρ kA x) (ps.reverse.map (hv_t ρ)).toArray U := fun U hU hW => ⟨rfl, hm_W_at X hP hS hI hU hW⟩
  have hM := h4 D ρ kA hoks
  have hR : (hm_rm d2).frames + 1 ≤ R.frames ∧ 8 + (M.2.2.1 + 11) + (hm_rm d2).locals ≤ R.locals := ⟨Nat.le_trans hd2 hroom.1, by have := hroom.2; have := hO.2.2; show 8 + (M.2.2.1 + 11) + 60 * d2 ≤ R.locals; omega⟩
  have hG : GoodIn hh_ws (hm_ws M) := hh_goodIn (fun w hw => by rcases List.mem_cons.mp hw with rfl | hw; exact hO.1.2.2; exact hw)
  have hn : (ps.reverse.map (hv_t ρ)).length = n := by simp [g1]
  have hstk : (F0 m pc ls ((ps ++ rest).map (hv_t ρ))).stack = (ps.reverse.map (hv_t ρ)).reverse ++ rest.map (hv_t ρ) := by simp
  refine va_callv (va_runS (As := ps.reverse.map (hv_t ρ)) (rest := rest.map (hv_t ρ)) ⟨hx, hb, hml, hown, hts⟩ hM ⟨callB_of n hts hG rfl rfl rfl (hts _ hO.1.2.1) (hts _ hlk2) hO.2.1 hR, hts _ hO.1.1⟩ ⟨hm_blind, hpre⟩ rfl hn hl.1 hstk (lv_room (by rw [hv_w_eq]; exact h3)) hd ⟨hcs.1, hcs.2⟩) hS (fun q _ h => hh_dom_A (hD x) q h) (hh_dom_A (hD x)) (fun u t H1 locs1 ht hvm hp hB hz1 hk1 hS1 => ?_)
  have hP1 : va_P D vwCl (hh_W ρ kA u) H1 := by rw [← ht]; exact hB.2.1
  exact hK _ _ _ hp hokr hlo H1 locs1 ce sl ls ⟨hP1, hS1, hB.2.2.2, rfl, rfl⟩ hl
theorem hs_callVSN (X : hx_C p R s m args meth c own cc nL d D ρ kA A ce0 sl0) {M : hm_M} {d2 n ci index : Nat} (hO : hm_OS M n) {host : String} (hlk2 : Cond.methodLinkNest own index M.1 host ∈ hh_nw) (hd2 : d2 < d) (hd : decode cc pc = .ok (.invokestatic index, 3)) (hK : hw_S p l e R s m args below meth c Q nL ρ (hp_P D ρ kA A s.heap ce0 sl0) (K) (pc + 3)) : hw_S p l e R s m args below meth c Q nL ρ (hp_P D ρ kA A s.heap ce0 sl0) (hc_callV l M d2 n hv_any K) (pc) := by
  obtain ⟨hx, hb, hml, hown, hts, hroom, hcs, hK0, hD, hlk⟩ := id X
  intro lo st x h
  unfold hc_callV at h
  intro hst hlo H locs ce sl ls hP0 hl
  obtain ⟨hP, hS, hI, rfl, rfl⟩ := id hP0
  obtain ⟨⟨h1, h2, h3⟩, h4⟩ := h
  obtain ⟨ps, g1, g2, g3⟩ := hv_pop_spec n [] st h1
  generalize (hv_pop n [] st).1 = av at h2 h4 g3
  generalize (hv_pop n [] st).2 = rest at h3 h4 g2
  rw [List.append_nil] at g3
  subst g3
  subst g2
  have hoks : hv_oks ps.reverse := fun v hv => hst v (List.mem_append_left _ (List.mem_reverse.mp hv))
  have hokr : hv_oks rest := fun v hv => hst v (List.mem_append_right _ hv)
  have hpre : ∀ U : State, U.heap = H → s.WarmedH U.vm → va_Pc (ps.reverse.map (hv_t ρ)) (hm_W D ρ kA x) (ps.reverse.map (hv_t ρ)).toArray U := fun U hU hW => ⟨rfl, hm_W_at X hP hS hI hU hW⟩
  have hM := h4 D ρ kA hoks
  have hR : (hm_rm d2).frames + 1 ≤ R.frames ∧ 8 + (M.2.2.1 + 11) + (hm_rm d2).locals ≤ R.locals := ⟨Nat.le_trans hd2 hroom.1, by have := hroom.2; have := hO.2.2; show 8 + (M.2.2.1 + 11) + 60 * d2 ≤ R.locals; omega⟩
  have hG : GoodIn hh_ws (hm_ws M) := hh_goodIn (fun w hw => by rcases List.mem_cons.mp hw with rfl | hw; exact hO.1.2.2; exact hw)
  have hn : (ps.reverse.map (hv_t ρ)).length = n := by simp [g1]
  have hnw := hK0.2.1
  have hstk : (F0 m pc ls ((ps ++ rest).map (hv_t ρ))).stack = (ps.reverse.map (hv_t ρ)).reverse ++ rest.map (hv_t ρ) := by simp
  refine va_callv (va_runSN (As := ps.reverse.map (hv_t ρ)) (rest := rest.map (hv_t ρ)) ⟨hx, hb, hml, hown, hts⟩ hM ⟨va_cnB n hts hG rfl rfl rfl (hnw _ hlk2) (hts _ hO.1.2.1) hO.2.1 hR, hts _ hO.1.1, trivial⟩ ⟨hm_blind, hpre⟩ rfl hn hl.1 hstk (lv_room (by rw [hv_w_eq]; exact h3)) hd ⟨hcs.1, hcs.2⟩) hS (fun q _ h => hh_dom_A (hD x) q h) (hh_dom_A (hD x)) (fun u t H1 locs1 ht hvm hp hB hz1 hk1 hS1 => ?_)
  have hP1 : va_P D vwCl (hh_W ρ kA u) H1 := by rw [← ht]; exact hB.2.1
  exact hK _ _ _ hp hokr hlo H1 locs1 ce sl ls ⟨hP1, hS1, hB.2.2.2, rfl, rfl⟩ hl
theorem hs_callLV (X : hx_C p R s m args meth c own cc nL d D ρ kA A ce0 sl0) {M : hm_M} {d2 n ci index : Nat} {F : u_T} {N : Nat} {ty0 : Nat → FieldType} (hcf : hh_CF ci M.1.cls F N ty0) (hO : hm_OV M n) (hlk2 : Cond.methodLink own index M.1 ∈ hh_ws) (hd2 : d2 < d) (hd : decode cc pc = .ok (.invokevirtual index, 3)) (hK : hw_S p l e R s m args below meth c Q nL ρ (hp_P D ρ kA A s.heap ce0 sl0) (K) (pc + 3)) : hw_S p l e R s m args below meth c Q nL ρ (hp_P D ρ kA A s.heap ce0 sl0) (hc_callL l M d2 (n + 1) (hv_isO ci) K) (pc) := by
  obtain ⟨hx, hb, hml, hown, hts, hroom, hcs, hK0, hD, hlk⟩ := id X
  intro lo st x h
  unfold hc_callL at h
  intro hst hlo H locs ce sl ls hP0 hl
  obtain ⟨hP, hS, hI, rfl, rfl⟩ := id hP0
  obtain ⟨⟨h1, h2, h3⟩, h4⟩ := h
  obtain ⟨ps, g1, g2, g3⟩ := hv_pop_spec (n + 1) [] st h1
  generalize (hv_pop (n + 1) [] st).1 = av at h2 h4 g3
  generalize (hv_pop (n + 1) [] st).2 = rest at h3 h4 g2
  rw [List.append_nil] at g3
  subst g3
  subst g2
  have hoks : hv_oks ps.reverse := fun v hv => hst v (List.mem_append_left _ (List.mem_reverse.mp hv))
  have hokr : hv_oks rest := fun v hv => hst v (List.mem_append_right _ hv)
  have hpre : ∀ U : State, U.heap = H → s.WarmedH U.vm → va_Pc (ps.reverse.map (hv_t ρ)) (hm_W D ρ kA x) (ps.reverse.map (hv_t ρ)).toArray U := fun U hU hW => ⟨rfl, hm_W_at X hP hS hI hU hW⟩
  have hM := h4 D ρ kA hoks
  have hR : (hm_rm d2).frames + 1 ≤ R.frames ∧ 8 + (M.2.2.1 + 11) + (hm_rm d2).locals ≤ R.locals := ⟨Nat.le_trans hd2 hroom.1, by have := hroom.2; have := hO.2.2; show 8 + (M.2.2.1 + 11) + 60 * d2 ≤ R.locals; omega⟩
  have hG : GoodIn hh_ws (hm_ws M) := hh_goodIn (fun w hw => by rcases List.mem_cons.mp hw with rfl | hw; exact hO.1.2.2.2; exact hw)
  have hrev : ∃ (a : Nat) (as : List hv_V), ps.reverse = .inr (.inr a) :: as ∧ hh_cls a = ci := by
    cases hq : ps.reverse with
    | nil => rw [hq] at h2; exact h2.elim
    | cons v as =>
      rw [hq] at h2
      rcases v with z | z | a
      · exact h2.elim
      · exact h2.elim
      · exact ⟨a, as, rfl, h2⟩
  obtain ⟨a, as, ha, hca⟩ := hrev
  have hps : ps = as.reverse ++ [.inr (.inr a)] := by rw [← List.reverse_reverse ps, ha]; simp
  rw [ha] at hM hpre hoks
  have hn : (as.map (hv_t ρ)).length = n := by have := congrArg List.length ha; simp [g1] at this; simp; omega
  have hrc : ∃ cell : Cell, H[ρ a]? = some cell ∧ cell.vm.isStatics = false ∧ s.vm.findClass M.1.cls = some cell.cls := by
    obtain ⟨q, hq, -⟩ := hh_of_cls hca hcf.2.2.2.2.1
    exact va_recv hK0.1 hP hcf.1 (hh_W_at (ρ := ρ) (kA := kA) (mem := x) hq)
  have hstk : (F0 m pc ls ((ps ++ rest).map (hv_t ρ))).stack = (as.map (hv_t ρ)).reverse ++ .ref (ρ a) :: rest.map (hv_t ρ) := by rw [hps]; simp [hv_t]
  refine va_calll (va_runV (b := ρ a) (As := as.map (hv_t ρ)) (rest := rest.map (hv_t ρ)) ⟨hx, hb, hml, hown, hts⟩ hM ⟨callB_of n hts hG rfl rfl rfl (hts _ hO.1.2.2.1) (hts _ hlk2) hO.2.1 hR, hts _ hO.1.1, hts _ hO.1.2.1⟩ ⟨hm_blind, hrc, hpre⟩ rfl hn hl.1 hstk (lv_room (by rw [hv_w_eq]; exact h3)) hd ⟨hcs.1, hcs.2⟩) hS (fun q _ h => hh_dom_A (hD x) q h) (hh_dom_A (hD x)) (fun r u t H1 locs1 ht hvm hp hB hz1 hk1 hS1 => ?_)
  have hP1 : va_P D vwCl (hh_W ρ kA u) H1 := by rw [← ht]; exact hB.2.1
  have z := hK _ _ _ hp (hv_oks_cons.mpr ⟨hj_ok r, hokr⟩) hlo H1 locs1 ce sl ls ⟨hP1, hS1, hB.2.2.2, rfl, rfl⟩ hl
  simp only [List.map_cons, hv_t, hj_self] at z
  exact z
theorem hs_callLVN (X : hx_C p R s m args meth c own cc nL d D ρ kA A ce0 sl0) {M : hm_M} {d2 n ci index : Nat} {F : u_T} {N : Nat} {ty0 : Nat → FieldType} (hcf : hh_CF ci M.1.cls F N ty0) (hO : hm_OV M n) {host : String} (hlk2 : Cond.methodLinkNest own index M.1 host ∈ hh_nw) (hd2 : d2 < d) (hd : decode cc pc = .ok (.invokevirtual index, 3)) (hK : hw_S p l e R s m args below meth c Q nL ρ (hp_P D ρ kA A s.heap ce0 sl0) (K) (pc + 3)) : hw_S p l e R s m args below meth c Q nL ρ (hp_P D ρ kA A s.heap ce0 sl0) (hc_callL l M d2 (n + 1) (hv_isO ci) K) (pc) := by
  obtain ⟨hx, hb, hml, hown, hts, hroom, hcs, hK0, hD, hlk⟩ := id X
  intro lo st x h
  unfold hc_callL at h
  intro hst hlo H locs ce sl ls hP0 hl
  obtain ⟨hP, hS, hI, rfl, rfl⟩ := id hP0
  obtain ⟨⟨h1, h2, h3⟩, h4⟩ := h
  obtain ⟨ps, g1, g2, g3⟩ := hv_pop_spec (n + 1) [] st h1
  generalize (hv_pop (n + 1) [] st).1 = av at h2 h4 g3
  generalize (hv_pop (n + 1) [] st).2 = rest at h3 h4 g2
  rw [List.append_nil] at g3
  subst g3
  subst g2
  have hoks : hv_oks ps.reverse := fun v hv => hst v (List.mem_append_left _ (List.mem_reverse.mp hv))
  have hokr : hv_oks rest := fun v hv => hst v (List.mem_append_right _ hv)
  have hpre : ∀ U : State, U.heap = H → s.WarmedH U.vm → va_Pc (ps.reverse.map (hv_t ρ)) (hm_W D ρ kA x) (ps.reverse.map (hv_t ρ)).toArray U := fun U hU hW => ⟨rfl, hm_W_at X hP hS hI hU hW⟩
  have hM := h4 D ρ kA hoks
  have hR : (hm_rm d2).frames + 1 ≤ R.frames ∧ 8 + (M.2.2.1 + 11) + (hm_rm d2).locals ≤ R.locals := ⟨Nat.le_trans hd2 hroom.1, by have := hroom.2; have := hO.2.2; show 8 + (M.2.2.1 + 11) + 60 * d2 ≤ R.locals; omega⟩
  have hG : GoodIn hh_ws (hm_ws M) := hh_goodIn (fun w hw => by rcases List.mem_cons.mp hw with rfl | hw; exact hO.1.2.2.2; exact hw)
  have hrev : ∃ (a : Nat) (as : List hv_V), ps.reverse = .inr (.inr a) :: as ∧ hh_cls a = ci := by
    cases hq : ps.reverse with
    | nil => rw [hq] at h2; exact h2.elim
    | cons v as =>
      rw [hq] at h2
      rcases v with z | z | a
      · exact h2.elim
      · exact h2.elim
      · exact ⟨a, as, rfl, h2⟩
  obtain ⟨a, as, ha, hca⟩ := hrev
  have hps : ps = as.reverse ++ [.inr (.inr a)] := by rw [← List.reverse_reverse ps, ha]; simp
  rw [ha] at hM hpre hoks
  have hn : (as.map (hv_t ρ)).length = n := by have := congrArg List.length ha; simp [g1] at this; simp; omega
  have hrc : ∃ cell : Cell, H[ρ a]? = some cell ∧ cell.vm.isStatics = false ∧ s.vm.findClass M.1.cls = some cell.cls := by
    obtain ⟨q, hq, -⟩ := hh_of_cls hca hcf.2.2.2.2.1
    exact va_recv hK0.1 hP hcf.1 (hh_W_at (ρ := ρ) (kA := kA) (mem := x) hq)
  have hnw := hK0.2.1
  have hstk : (F0 m pc ls ((ps ++ rest).map (hv_t ρ))).stack = (as.map (hv_t ρ)).reverse ++ .ref (ρ a) :: rest.map (hv_t ρ) := by rw [hps]; simp [hv_t]
  refine va_calll (va_runVN (b := ρ a) (As := as.map (hv_t ρ)) (rest := rest.map (hv_t ρ)) ⟨hx, hb, hml, hown, hts⟩ hM ⟨va_cnB n hts hG rfl rfl rfl (hnw _ hlk2) (hts _ hO.1.2.2.1) hO.2.1 hR, hts _ hO.1.1, hts _ hO.1.2.1⟩ ⟨hm_blind, hrc, hpre⟩ rfl hn hl.1 hstk (lv_room (by rw [hv_w_eq]; exact h3)) hd ⟨hcs.1, hcs.2⟩) hS (fun q _ h => hh_dom_A (hD x) q h) (hh_dom_A (hD x)) (fun r u t H1 locs1 ht hvm hp hB hz1 hk1 hS1 => ?_)
  have hP1 : va_P D vwCl (hh_W ρ kA u) H1 := by rw [← ht]; exact hB.2.1
  have z := hK _ _ _ hp (hv_oks_cons.mpr ⟨hj_ok r, hokr⟩) hlo H1 locs1 ce sl ls ⟨hP1, hS1, hB.2.2.2, rfl, rfl⟩ hl
  simp only [List.map_cons, hv_t, hj_self] at z
  exact z
theorem hs_callLS (X : hx_C p R s m args meth c own cc nL d D ρ kA A ce0 sl0) {M : hm_M} {d2 n ci index : Nat} (hO : hm_OS M n) (hlk2 : Cond.methodLink own index M.1 ∈ hh_ws) (hd2 : d2 < d) (hd : decode cc pc = .ok (.invokestatic index, 3)) (hK : hw_S p l e R s m args below meth c Q nL ρ (hp_P D ρ kA A s.heap ce0 sl0) (K) (pc + 3)) : hw_S p l e R s m args below meth c Q nL ρ (hp_P D ρ kA A s.heap ce0 sl0) (hc_callL l M d2 n hv_any K) (pc) := by
  obtain ⟨hx, hb, hml, hown, hts, hroom, hcs, hK0, hD, hlk⟩ := id X
  intro lo st x h
  unfold hc_callL at h
  intro hst hlo H locs ce sl ls hP0 hl
  obtain ⟨hP, hS, hI, rfl, rfl⟩ := id hP0
  obtain ⟨⟨h1, h2, h3⟩, h4⟩ := h
  obtain ⟨ps, g1, g2, g3⟩ := hv_pop_spec n [] st h1
  generalize (hv_pop n [] st).1 = av at h2 h4 g3
  generalize (hv_pop n [] st).2 = rest at h3 h4 g2
  rw [List.append_nil] at g3
  subst g3
  subst g2
  have hoks : hv_oks ps.reverse := fun v hv => hst v (List.mem_append_left _ (List.mem_reverse.mp hv))
  have hokr : hv_oks rest := fun v hv => hst v (List.mem_append_right _ hv)
  have hpre : ∀ U : State, U.heap = H → s.WarmedH U.vm → va_Pc (ps.reverse.map (hv_t ρ)) (hm_W D ρ kA x) (ps.reverse.map (hv_t ρ)).toArray U := fun U hU hW => ⟨rfl, hm_W_at X hP hS hI hU hW⟩
  have hM := h4 D ρ kA hoks
  have hR : (hm_rm d2).frames + 1 ≤ R.frames ∧ 8 + (M.2.2.1 + 11) + (hm_rm d2).locals ≤ R.locals := ⟨Nat.le_trans hd2 hroom.1, by have := hroom.2; have := hO.2.2; show 8 + (M.2.2.1 + 11) + 60 * d2 ≤ R.locals; omega⟩
  have hG : GoodIn hh_ws (hm_ws M) := hh_goodIn (fun w hw => by rcases List.mem_cons.mp hw with rfl | hw; exact hO.1.2.2; exact hw)
  have hn : (ps.reverse.map (hv_t ρ)).length = n := by simp [g1]
  have hstk : (F0 m pc ls ((ps ++ rest).map (hv_t ρ))).stack = (ps.reverse.map (hv_t ρ)).reverse ++ rest.map (hv_t ρ) := by simp
  refine va_calll (va_runS (As := ps.reverse.map (hv_t ρ)) (rest := rest.map (hv_t ρ)) ⟨hx, hb, hml, hown, hts⟩ hM ⟨callB_of n hts hG rfl rfl rfl (hts _ hO.1.2.1) (hts _ hlk2) hO.2.1 hR, hts _ hO.1.1⟩ ⟨hm_blind, hpre⟩ rfl hn hl.1 hstk (lv_room (by rw [hv_w_eq]; exact h3)) hd ⟨hcs.1, hcs.2⟩) hS (fun q _ h => hh_dom_A (hD x) q h) (hh_dom_A (hD x)) (fun r u t H1 locs1 ht hvm hp hB hz1 hk1 hS1 => ?_)
  have hP1 : va_P D vwCl (hh_W ρ kA u) H1 := by rw [← ht]; exact hB.2.1
  have z := hK _ _ _ hp (hv_oks_cons.mpr ⟨hj_ok r, hokr⟩) hlo H1 locs1 ce sl ls ⟨hP1, hS1, hB.2.2.2, rfl, rfl⟩ hl
  simp only [List.map_cons, hv_t, hj_self] at z
  exact z
theorem hs_callLSN (X : hx_C p R s m args meth c own cc nL d D ρ kA A ce0 sl0) {M : hm_M} {d2 n ci index : Nat} (hO : hm_OS M n) {host : String} (hlk2 : Cond.methodLinkNest own index M.1 host ∈ hh_nw) (hd2 : d2 < d) (hd : decode cc pc = .ok (.invokestatic index, 3)) (hK : hw_S p l e R s m args below meth c Q nL ρ (hp_P D ρ kA A s.heap ce0 sl0) (K) (pc + 3)) : hw_S p l e R s m args below meth c Q nL ρ (hp_P D ρ kA A s.heap ce0 sl0) (hc_callL l M d2 n hv_any K) (pc) := by
  obtain ⟨hx, hb, hml, hown, hts, hroom, hcs, hK0, hD, hlk⟩ := id X
  intro lo st x h
  unfold hc_callL at h
  intro hst hlo H locs ce sl ls hP0 hl
  obtain ⟨hP, hS, hI, rfl, rfl⟩ := id hP0
  obtain ⟨⟨h1, h2, h3⟩, h4⟩ := h
  obtain ⟨ps, g1, g2, g3⟩ := hv_pop_spec n [] st h1
  generalize (hv_pop n [] st).1 = av at h2 h4 g3
  generalize (hv_pop n [] st).2 = rest at h3 h4 g2
  rw [List.append_nil] at g3
  subst g3
  subst g2
  have hoks : hv_oks ps.reverse := fun v hv => hst v (List.mem_append_left _ (List.mem_reverse.mp hv))
  have hokr : hv_oks rest := fun v hv => hst v (List.mem_append_right _ hv)
  have hpre : ∀ U : State, U.heap = H → s.WarmedH U.vm → va_Pc (ps.reverse.map (hv_t ρ)) (hm_W D ρ kA x) (ps.reverse.map (hv_t ρ)).toArray U := fun U hU hW => ⟨rfl, hm_W_at X hP hS hI hU hW⟩
  have hM := h4 D ρ kA hoks
  have hR : (hm_rm d2).frames + 1 ≤ R.frames ∧ 8 + (M.2.2.1 + 11) + (hm_rm d2).locals ≤ R.locals := ⟨Nat.le_trans hd2 hroom.1, by have := hroom.2; have := hO.2.2; show 8 + (M.2.2.1 + 11) + 60 * d2 ≤ R.locals; omega⟩
  have hG : GoodIn hh_ws (hm_ws M) := hh_goodIn (fun w hw => by rcases List.mem_cons.mp hw with rfl | hw; exact hO.1.2.2; exact hw)
  have hn : (ps.reverse.map (hv_t ρ)).length = n := by simp [g1]
  have hnw := hK0.2.1
  have hstk : (F0 m pc ls ((ps ++ rest).map (hv_t ρ))).stack = (ps.reverse.map (hv_t ρ)).reverse ++ rest.map (hv_t ρ) := by simp
  refine va_calll (va_runSN (As := ps.reverse.map (hv_t ρ)) (rest := rest.map (hv_t ρ)) ⟨hx, hb, hml, hown, hts⟩ hM ⟨va_cnB n hts hG rfl rfl rfl (hnw _ hlk2) (hts _ hO.1.2.1) hO.2.1 hR, hts _ hO.1.1, trivial⟩ ⟨hm_blind, hpre⟩ rfl hn hl.1 hstk (lv_room (by rw [hv_w_eq]; exact h3)) hd ⟨hcs.1, hcs.2⟩) hS (fun q _ h => hh_dom_A (hD x) q h) (hh_dom_A (hD x)) (fun r u t H1 locs1 ht hvm hp hB hz1 hk1 hS1 => ?_)
  have hP1 : va_P D vwCl (hh_W ρ kA u) H1 := by rw [← ht]; exact hB.2.1
  have z := hK _ _ _ hp (hv_oks_cons.mpr ⟨hj_ok r, hokr⟩) hlo H1 locs1 ce sl ls ⟨hP1, hS1, hB.2.2.2, rfl, rfl⟩ hl
  simp only [List.map_cons, hv_t, hj_self] at z
  exact z
theorem hs_callIVs (X : hx_C p R s m args meth c own cc nL d D ρ kA A ce0 sl0) {M : hm_M} {d2 n ci index : Nat} (hSt : M.1.cls = "java/lang/String") (hO : hm_OV M n) (hlk2 : Cond.methodLink own index M.1 ∈ hh_ws) (hd2 : d2 < d) (hd : decode cc pc = .ok (.invokevirtual index, 3)) (hK : hw_S p l e R s m args below meth c Q nL ρ (hp_P D ρ kA A s.heap ce0 sl0) (K) (pc + 3)) : hw_S p l e R s m args below meth c Q nL ρ (hp_P D ρ kA A s.heap ce0 sl0) (hc_callI l M d2 (n + 1) hv_isS K) (pc) := by
  obtain ⟨hx, hb, hml, hown, hts, hroom, hcs, hK0, hD, hlk⟩ := id X
  intro lo st x h
  unfold hc_callI at h
  intro hst hlo H locs ce sl ls hP0 hl
  obtain ⟨hP, hS, hI, rfl, rfl⟩ := id hP0
  obtain ⟨⟨h1, h2, h3⟩, h4⟩ := h
  obtain ⟨ps, g1, g2, g3⟩ := hv_pop_spec (n + 1) [] st h1
  generalize (hv_pop (n + 1) [] st).1 = av at h2 h4 g3
  generalize (hv_pop (n + 1) [] st).2 = rest at h3 h4 g2
  rw [List.append_nil] at g3
  subst g3
  subst g2
  have hoks : hv_oks ps.reverse := fun v hv => hst v (List.mem_append_left _ (List.mem_reverse.mp hv))
  have hokr : hv_oks rest := fun v hv => hst v (List.mem_append_right _ hv)
  have hpre : ∀ U : State, U.heap = H → s.WarmedH U.vm → va_Pc (ps.reverse.map (hv_t ρ)) (hm_W D ρ kA x) (ps.reverse.map (hv_t ρ)).toArray U := fun U hU hW => ⟨rfl, hm_W_at X hP hS hI hU hW⟩
  have hM := h4 D ρ kA hoks
  have hR : (hm_rm d2).frames + 1 ≤ R.frames ∧ 8 + (M.2.2.1 + 11) + (hm_rm d2).locals ≤ R.locals := ⟨Nat.le_trans hd2 hroom.1, by have := hroom.2; have := hO.2.2; show 8 + (M.2.2.1 + 11) + 60 * d2 ≤ R.locals; omega⟩
  have hG : GoodIn hh_ws (hm_ws M) := hh_goodIn (fun w hw => by rcases List.mem_cons.mp hw with rfl | hw; exact hO.1.2.2.2; exact hw)
  have hrev : ∃ (a : Nat) (as : List hv_V), ps.reverse = .inr (.inr a) :: as ∧ hh_isstr a := by
    cases hq : ps.reverse with
    | nil => rw [hq] at h2; exact h2.elim
    | cons v as =>
      rw [hq] at h2
      rcases v with z | z | a
      · exact h2.elim
      · exact h2.elim
      · exact ⟨a, as, rfl, h2⟩
  obtain ⟨a, as, ha, hca⟩ := hrev
  have hps : ps = as.reverse ++ [.inr (.inr a)] := by rw [← List.reverse_reverse ps, ha]; simp
  rw [ha] at hM hpre hoks
  have hn : (as.map (hv_t ρ)).length = n := by have := congrArg List.length ha; simp [g1] at this; simp; omega
  have hrc : ∃ cell : Cell, H[ρ a]? = some cell ∧ cell.vm.isStatics = false ∧ s.vm.findClass M.1.cls = some cell.cls := by
    obtain ⟨k, hk, rfl⟩ := hca
    rw [hSt]
    exact vk_recv (adK := fun k => ρ (hh_sid k)) (i := k) hK0.2.2.2.2.2.1 hk hS
  have hstk : (F0 m pc ls ((ps ++ rest).map (hv_t ρ))).stack = (as.map (hv_t ρ)).reverse ++ .ref (ρ a) :: rest.map (hv_t ρ) := by rw [hps]; simp [hv_t]
  refine va_calli (va_runV (b := ρ a) (As := as.map (hv_t ρ)) (rest := rest.map (hv_t ρ)) ⟨hx, hb, hml, hown, hts⟩ hM ⟨callB_of n hts hG rfl rfl rfl (hts _ hO.1.2.2.1) (hts _ hlk2) hO.2.1 hR, hts _ hO.1.1, hts _ hO.1.2.1⟩ ⟨hm_blind, hrc, hpre⟩ rfl hn hl.1 hstk (lv_room (by rw [hv_w_eq]; exact h3)) hd ⟨hcs.1, hcs.2⟩) hS (fun q _ h => hh_dom_A (hD x) q h) (hh_dom_A (hD x)) (fun r u t H1 locs1 ht hvm hp hB hz1 hk1 hS1 => ?_)
  have hP1 : va_P D vwCl (hh_W ρ kA u) H1 := by rw [← ht]; exact hB.2.1
  have z := hK _ _ _ hp (hv_oks_cons.mpr ⟨hi_ok r, hokr⟩) hlo H1 locs1 ce sl ls ⟨hP1, hS1, hB.2.2.2, rfl, rfl⟩ hl
  simp only [List.map_cons, hv_t, hi_self] at z
  exact z
theorem hi_ch {z : Int} (h : 0 ≤ z ∧ z < 128) : ((Int32.ofInt z).toUInt32 % 65536).toInt32 = Int32.ofInt z := by
  obtain ⟨n, rfl⟩ := Int.eq_ofNat_of_zero_le h.1
  have hn : n < 128 := by omega
  have key : ∀ n : Nat, n < 128 → ((Int32.ofInt (n : Int)).toUInt32 % 65536).toInt32 = Int32.ofInt (n : Int) := by decide +kernel
  exact key n hn
theorem hs_ireturn {QQ : Int → hm → Prop} (X : hx_C p R s m args meth c own cc nL d D ρ kA (hh_dom ρ) 0 0) (hr : meth.sig.returnType = some .int) (hd : decode cc pc = .ok (.ireturn, 1)) : hw_S p l e R s m args below meth c (MQ below (va_Qi (fun (r : Int32) (u : hm) => QQ r.toInt u) (fun u t => hm_W D ρ kA u t) (hh_dom ρ)) args s 0 0 (hh_dom ρ)) nL ρ (hp_P D ρ kA (hh_dom ρ) s.heap 0 0) (hc_ireturn QQ) pc := by
  obtain ⟨hx, hb, hml, hown, hts, hroom, hcs, hK0, hD, hlk⟩ := id X
  intro lo st x h
  unfold hc_ireturn at h
  split at h
  · rename_i z
    intro hst hlo H locs ce sl ls hP0 hl
    obtain ⟨hP, hS, hI, rfl, rfl⟩ := id hP0
    exact W.iret (v := Int32.ofInt z) hx hb hr (fun t ht hW => ⟨⟨(Int32.ofInt z), x, rfl, Eq.mp (congrArg (fun w : Int => QQ w x) (hi_toInt (hv_oks_cons.mp hst).1).symm) h, hm_W_at X hP hS hI ht hW⟩, hS.F ht⟩) hS.2.2 hd hlk
  · exact h.elim
theorem hs_zreturn {QQ : Int → hm → Prop} (X : hx_C p R s m args meth c own cc nL d D ρ kA (hh_dom ρ) 0 0) (hr : meth.sig.returnType = some .boolean) (hd : decode cc pc = .ok (.ireturn, 1)) : hw_S p l e R s m args below meth c (MQ below (va_Qi (fun (r : Int32) (u : hm) => QQ r.toInt u) (fun u t => hm_W D ρ kA u t) (hh_dom ρ)) args s 0 0 (hh_dom ρ)) nL ρ (hp_P D ρ kA (hh_dom ρ) s.heap 0 0) (hc_zreturn QQ) pc := by
  obtain ⟨hx, hb, hml, hown, hts, hroom, hcs, hK0, hD, hlk⟩ := id X
  intro lo st x h
  unfold hc_zreturn at h
  split at h
  · rename_i z
    intro hst hlo H locs ce sl ls hP0 hl
    obtain ⟨hP, hS, hI, rfl, rfl⟩ := id hP0
    exact W.zret (v := Int32.ofInt z) hx hb hr (by rcases h.1 with rfl | rfl <;> decide) (fun t ht hW => ⟨⟨(Int32.ofInt z), x, rfl, Eq.mp (congrArg (fun w : Int => QQ w x) (hi_toInt (hv_oks_cons.mp hst).1).symm) h.2, hm_W_at X hP hS hI ht hW⟩, hS.F ht⟩) hS.2.2 hd hlk
  · exact h.elim
theorem hs_creturn {QQ : Int → hm → Prop} (X : hx_C p R s m args meth c own cc nL d D ρ kA (hh_dom ρ) 0 0) {ty : FieldType} (hty : ty = .byte ∨ ty = .char) (hr : meth.sig.returnType = some ty) (hd : decode cc pc = .ok (.ireturn, 1)) : hw_S p l e R s m args below meth c (MQ below (va_Qi (fun (r : Int32) (u : hm) => QQ r.toInt u) (fun u t => hm_W D ρ kA u t) (hh_dom ρ)) args s 0 0 (hh_dom ρ)) nL ρ (hp_P D ρ kA (hh_dom ρ) s.heap 0 0) (hc_creturn QQ) pc := by
  obtain ⟨hx, hb, hml, hown, hts, hroom, hcs, hK0, hD, hlk⟩ := id X
  intro lo st x h
  unfold hc_creturn at h
  split at h
  · rename_i z
    intro hst hlo H locs ce sl ls hP0 hl
    obtain ⟨hP, hS, hI, rfl, rfl⟩ := id hP0
    exact W.zret (v := Int32.ofInt z) hx hb hr (by rcases hty with rfl | rfl; exact congrArg Value.int (hi_b (by omega)); exact congrArg Value.int (hi_ch h.1)) (fun t ht hW => ⟨⟨(Int32.ofInt z), x, rfl, Eq.mp (congrArg (fun w : Int => QQ w x) (hi_toInt (hv_oks_cons.mp hst).1).symm) h.2, hm_W_at X hP hS hI ht hW⟩, hS.F ht⟩) hS.2.2 hd hlk
  · exact h.elim
theorem hs_lreturn {QQ : Int → hm → Prop} (X : hx_C p R s m args meth c own cc nL d D ρ kA (hh_dom ρ) 0 0) (hr : meth.sig.returnType = some .long) (hd : decode cc pc = .ok (.lreturn, 1)) : hw_S p l e R s m args below meth c (MQ below (va_Ql (fun (r : Int64) (u : hm) => QQ r.toInt u) (fun u t => hm_W D ρ kA u t) (hh_dom ρ)) args s 0 0 (hh_dom ρ)) nL ρ (hp_P D ρ kA (hh_dom ρ) s.heap 0 0) (hc_lreturn QQ) pc := by
  obtain ⟨hx, hb, hml, hown, hts, hroom, hcs, hK0, hD, hlk⟩ := id X
  intro lo st x h
  unfold hc_lreturn at h
  split at h
  · rename_i z
    intro hst hlo H locs ce sl ls hP0 hl
    obtain ⟨hP, hS, hI, rfl, rfl⟩ := id hP0
    exact W.lret (v := Int64.ofInt z) hx hb hr (fun t ht hW => ⟨⟨(Int64.ofInt z), x, rfl, Eq.mp (congrArg (fun w : Int => QQ w x) (hj_toInt (hv_oks_cons.mp hst).1).symm) h, hm_W_at X hP hS hI ht hW⟩, hS.F ht⟩) hS.2.2 hd hlk
  · exact h.elim
theorem hs_return {QQ : hm → Prop} (X : hx_C p R s m args meth c own cc nL d D ρ kA (hh_dom ρ) 0 0) (hr : meth.sig.returnType = none) (hd : decode cc pc = .ok (.return_, 1)) : hw_S p l e R s m args below meth c (MQ below (va_Qv (fun (u : hm) => QQ u) (fun u t => hm_W D ρ kA u t) (hh_dom ρ)) args s 0 0 (hh_dom ρ)) nL ρ (hp_P D ρ kA (hh_dom ρ) s.heap 0 0) (hc_return QQ) pc := by
  obtain ⟨hx, hb, hml, hown, hts, hroom, hcs, hK0, hD, hlk⟩ := id X
  intro lo st x h
  unfold hc_return at h
  split at h
  · intro hst hlo H locs ce sl ls hP0 hl
    obtain ⟨hP, hS, hI, rfl, rfl⟩ := id hP0
    exact W.vret hx hb hr (fun t ht hW => ⟨⟨x, rfl, h, hm_W_at X hP hS hI ht hW⟩, hS.F ht⟩) hS.2.2 hd hlk
  · exact h.elim
theorem hv_ent_get : ∀ (av : List hv_V) (n i k : Nat) (v : hv_V), hv_get (hv_ent av n) i = some v → (k + i, hv_t ρ v) ∈ lv_args k (av.map (hv_t ρ))
  | [], n, i, k, v, h => by
    exfalso
    induction n generalizing i with
    | zero => cases h
    | succ n ih =>
      cases i with
      | zero => cases h
      | succ i => exact ih i h
  | .inr (.inl z) :: vs, 0, i, k, v, h => by cases h
  | .inr (.inl z) :: vs, 1, i, k, v, h => by
    cases i with
    | zero =>
      simp only [hv_ent, hv_get, Option.some.injEq] at h
      subst h
      exact List.mem_cons_self
    | succ i =>
      simp only [hv_ent, hv_get] at h
      exfalso
      cases vs with
      | nil => cases h
      | cons w vs => rcases w with a | a | a <;> cases h
  | .inr (.inl z) :: vs, n + 2, i, k, v, h => by
    cases i with
    | zero =>
      simp only [hv_ent, hv_get, Option.some.injEq] at h
      subst h
      exact List.mem_cons_self
    | succ i =>
      cases i with
      | zero => simp only [hv_ent, hv_get] at h; cases h
      | succ i =>
        simp only [hv_ent, hv_get] at h
        have := hv_ent_get vs n i (k + 2) v h
        rw [show k + (i + 1 + 1) = k + 2 + i by omega]
        exact List.mem_cons_of_mem _ this
  | .inl z :: vs, 0, i, k, v, h => by cases h
  | .inl z :: vs, n + 1, i, k, v, h => by
    cases i with
    | zero =>
      simp only [hv_ent, hv_get, Option.some.injEq] at h
      subst h
      exact List.mem_cons_self
    | succ i =>
      simp only [hv_ent, hv_get] at h
      have := hv_ent_get vs n i (k + 1) v h
      rw [show k + (i + 1) = k + 1 + i by omega]
      exact List.mem_cons_of_mem _ this
  | .inr (.inr z) :: vs, 0, i, k, v, h => by cases h
  | .inr (.inr z) :: vs, n + 1, i, k, v, h => by
    cases i with
    | zero =>
      simp only [hv_ent, hv_get, Option.some.injEq] at h
      subst h
      exact List.mem_cons_self
    | succ i =>
      simp only [hv_ent, hv_get] at h
      have := hv_ent_get vs n i (k + 1) v h
      rw [show k + (i + 1) = k + 1 + i by omega]
      exact List.mem_cons_of_mem _ this
theorem hv_okl_ent : ∀ (av : List hv_V) (n : Nat), hv_oks av → hv_okl (hv_ent av n) := fun av n h i v hv => by
  have h2 := hv_ent_get (ρ := fun a => a) av n i 0 v hv
  have key : ∀ (vs : List hv_V) (k : Nat), (∀ w ∈ vs, hv_ok w) → ∀ q ∈ lv_args k (vs.map (hv_t (fun a => a))), ∃ w, hv_ok w ∧ q.2 = hv_t (fun a => a) w := by
    intro vs
    induction vs with
    | nil => intro k _ q hq; cases hq
    | cons w vs ih =>
      intro k hw q hq
      rcases List.mem_cons.mp hq with rfl | hq
      · exact ⟨w, hw w List.mem_cons_self, rfl⟩
      · exact ih _ (fun u hu => hw u (List.mem_cons_of_mem _ hu)) q hq
  exact (by
    have : ∀ (vs : List hv_V) (n i : Nat), (∀ w ∈ vs, hv_ok w) → hv_get (hv_ent vs n) i = some v → hv_ok v := by
      intro vs
      induction vs with
      | nil =>
        intro n i _ hh
        have h3 := hv_ent_get (ρ := fun a => a) [] n i 0 v hh
        cases h3
      | cons w vs ih =>
        intro n i hw hh
        rcases w with z | z | z
        · cases n with
          | zero => cases hh
          | succ n =>
            cases i with
            | zero => simp only [hv_ent, hv_get, Option.some.injEq] at hh; subst hh; exact hw _ List.mem_cons_self
            | succ i => exact ih n i (fun u hu => hw u (List.mem_cons_of_mem _ hu)) hh
        · cases n with
          | zero => cases hh
          | succ n =>
            cases n with
            | zero =>
              cases i with
              | zero => simp only [hv_ent, hv_get, Option.some.injEq] at hh; subst hh; exact hw _ List.mem_cons_self
              | succ i => exact ih 0 i (fun u hu => hw u (List.mem_cons_of_mem _ hu)) hh
            | succ n =>
              cases i with
              | zero => simp only [hv_ent, hv_get, Option.some.injEq] at hh; subst hh; exact hw _ List.mem_cons_self
              | succ i =>
                cases i with
                | zero => simp only [hv_ent, hv_get] at hh; cases hh
                | succ i => exact ih n i (fun u hu => hw u (List.mem_cons_of_mem _ hu)) hh
        · cases n with
          | zero => cases hh
          | succ n =>
            cases i with
            | zero => simp only [hv_ent, hv_get, Option.some.injEq] at hh; subst hh; exact hw _ List.mem_cons_self
            | succ i => exact ih n i (fun u hu => hw u (List.mem_cons_of_mem _ hu)) hh
    exact this av n i h hv)
def hv_wl : List hv_V → Nat
  | [] => 0
  | v :: l => hv_cat v + hv_wl l
theorem hv_sl_len (av : List hv_V) : (lg_sl (av.map (hv_t ρ))).length = hv_wl av := by
  induction av with
  | nil => rfl
  | cons v l ih =>
    have e : lg_sl ((v :: l).map (hv_t ρ)) = lg_sl [hv_t ρ v] ++ lg_sl (l.map (hv_t ρ)) := by simp [lg_sl]
    rw [e, List.length_append, ih]
    rcases v with z | z | z <;> simp [lg_sl, hv_t, Value.category, hv_wl, hv_cat]
theorem hm_I_of {M : hm_M} {av : List hv_V} {mem : hm} {QQ : Int → hm → Prop} (hy : plainName M.1.cls = true) (hav : hv_wl av ≤ M.2.2.1)
    (body : ∀ (p : Program) (e : Env) (R : Room) (s : State) (m : MethodId) (args : Array Value) (below : List Frame) (meth : Method) (c : Code) (D : va_G) (ρ : Nat → Nat) (kA : Nat → ClassId), hx_C p R s m args meth c M.1.cls M.2.1 M.2.2.1 d D ρ kA (hh_dom ρ) 0 0 → meth.sig.returnType = M.2.2.2 →
      hw_C p l e R s m args below meth c (MQ below (va_Qi (fun (r : Int32) (u : hm) => QQ r.toInt u) (fun u t => hm_W D ρ kA u t) (hh_dom ρ)) args s 0 0 (hh_dom ρ)) M.2.2.1 ρ (hp_P D ρ kA (hh_dom ρ) s.heap 0 0) 0 (hv_ent av M.2.2.1) [] mem) : hm_I l M d av mem QQ := by
  intro D ρ kA hoks
  refine Met.ofW (cc := M.2.1) (maxL := M.2.2.1) (ret := M.2.2.2) hy rfl ?_
  intro p e s m args below meth c s₁ B hml hv
  obtain ⟨rfl, hK, hP, hD, hI⟩ := hv
  have hts : ∀ w ∈ hm_ws M, w.before (av.map (hv_t ρ)).toArray s = true := atoms_spec (ws := hm_ws M) B.pre
  have hown : s.vm.findClass M.1.cls = some m.cls := findClass_of_methodNamed B.named
  have X : hx_C p (headSpec (hm_ws M) (hm_rm d)).room s m (av.map (hv_t ρ)).toArray meth c M.1.cls M.2.1 M.2.2.1 d D ρ kA (hh_dom ρ) 0 0 := ⟨B.exec, B.bytes, hml, hown, fun w hw => hts w (List.mem_cons_of_mem _ hw), ⟨Nat.le_refl _, Nat.le_refl _⟩, ⟨Nat.zero_le _, Nat.zero_le _⟩, hK, hD, B.notSynchronized⟩
  have hb := body p e _ s m _ below meth c D ρ kA X B.returns
  rw [lg_entry_eq]
  refine hb (fun v hv => by cases hv) (hv_okl_ent _ _ hoks) s.heap [] 0 0 _ ⟨hP, va_S.rf, hI, rfl, rfl⟩ ?_
  have he := lv_entry (av.map (hv_t ρ)) (n := M.2.2.1) (by rw [hv_sl_len]; exact hav)
  refine ⟨he.1, he.2.1, fun i v hv => ?_⟩
  have h2 := hv_ent_get (ρ := ρ) av M.2.2.1 i 0 v hv
  rw [Nat.zero_add] at h2
  exact he.2.2 _ h2
theorem hm_L_of {M : hm_M} {av : List hv_V} {mem : hm} {QQ : Int → hm → Prop} (hy : plainName M.1.cls = true) (hav : hv_wl av ≤ M.2.2.1)
    (body : ∀ (p : Program) (e : Env) (R : Room) (s : State) (m : MethodId) (args : Array Value) (below : List Frame) (meth : Method) (c : Code) (D : va_G) (ρ : Nat → Nat) (kA : Nat → ClassId), hx_C p R s m args meth c M.1.cls M.2.1 M.2.2.1 d D ρ kA (hh_dom ρ) 0 0 → meth.sig.returnType = M.2.2.2 →
      hw_C p l e R s m args below meth c (MQ below (va_Ql (fun (r : Int64) (u : hm) => QQ r.toInt u) (fun u t => hm_W D ρ kA u t) (hh_dom ρ)) args s 0 0 (hh_dom ρ)) M.2.2.1 ρ (hp_P D ρ kA (hh_dom ρ) s.heap 0 0) 0 (hv_ent av M.2.2.1) [] mem) : hm_L l M d av mem QQ := by
  intro D ρ kA hoks
  refine Met.ofW (cc := M.2.1) (maxL := M.2.2.1) (ret := M.2.2.2) hy rfl ?_
  intro p e s m args below meth c s₁ B hml hv
  obtain ⟨rfl, hK, hP, hD, hI⟩ := hv
  have hts : ∀ w ∈ hm_ws M, w.before (av.map (hv_t ρ)).toArray s = true := atoms_spec (ws := hm_ws M) B.pre
  have hown : s.vm.findClass M.1.cls = some m.cls := findClass_of_methodNamed B.named
  have X : hx_C p (headSpec (hm_ws M) (hm_rm d)).room s m (av.map (hv_t ρ)).toArray meth c M.1.cls M.2.1 M.2.2.1 d D ρ kA (hh_dom ρ) 0 0 := ⟨B.exec, B.bytes, hml, hown, fun w hw => hts w (List.mem_cons_of_mem _ hw), ⟨Nat.le_refl _, Nat.le_refl _⟩, ⟨Nat.zero_le _, Nat.zero_le _⟩, hK, hD, B.notSynchronized⟩
  have hb := body p e _ s m _ below meth c D ρ kA X B.returns
  rw [lg_entry_eq]
  refine hb (fun v hv => by cases hv) (hv_okl_ent _ _ hoks) s.heap [] 0 0 _ ⟨hP, va_S.rf, hI, rfl, rfl⟩ ?_
  have he := lv_entry (av.map (hv_t ρ)) (n := M.2.2.1) (by rw [hv_sl_len]; exact hav)
  refine ⟨he.1, he.2.1, fun i v hv => ?_⟩
  have h2 := hv_ent_get (ρ := ρ) av M.2.2.1 i 0 v hv
  rw [Nat.zero_add] at h2
  exact he.2.2 _ h2
theorem hm_V_of {M : hm_M} {av : List hv_V} {mem : hm} {QQ : hm → Prop} (hy : plainName M.1.cls = true) (hav : hv_wl av ≤ M.2.2.1)
    (body : ∀ (p : Program) (e : Env) (R : Room) (s : State) (m : MethodId) (args : Array Value) (below : List Frame) (meth : Method) (c : Code) (D : va_G) (ρ : Nat → Nat) (kA : Nat → ClassId), hx_C p R s m args meth c M.1.cls M.2.1 M.2.2.1 d D ρ kA (hh_dom ρ) 0 0 → meth.sig.returnType = M.2.2.2 →
      hw_C p l e R s m args below meth c (MQ below (va_Qv (fun (u : hm) => QQ u) (fun u t => hm_W D ρ kA u t) (hh_dom ρ)) args s 0 0 (hh_dom ρ)) M.2.2.1 ρ (hp_P D ρ kA (hh_dom ρ) s.heap 0 0) 0 (hv_ent av M.2.2.1) [] mem) : hm_V l M d av mem QQ := by
  intro D ρ kA hoks
  refine Met.ofW (cc := M.2.1) (maxL := M.2.2.1) (ret := M.2.2.2) hy rfl ?_
  intro p e s m args below meth c s₁ B hml hv
  obtain ⟨rfl, hK, hP, hD, hI⟩ := hv
  have hts : ∀ w ∈ hm_ws M, w.before (av.map (hv_t ρ)).toArray s = true := atoms_spec (ws := hm_ws M) B.pre
  have hown : s.vm.findClass M.1.cls = some m.cls := findClass_of_methodNamed B.named
  have X : hx_C p (headSpec (hm_ws M) (hm_rm d)).room s m (av.map (hv_t ρ)).toArray meth c M.1.cls M.2.1 M.2.2.1 d D ρ kA (hh_dom ρ) 0 0 := ⟨B.exec, B.bytes, hml, hown, fun w hw => hts w (List.mem_cons_of_mem _ hw), ⟨Nat.le_refl _, Nat.le_refl _⟩, ⟨Nat.zero_le _, Nat.zero_le _⟩, hK, hD, B.notSynchronized⟩
  have hb := body p e _ s m _ below meth c D ρ kA X B.returns
  rw [lg_entry_eq]
  refine hb (fun v hv => by cases hv) (hv_okl_ent _ _ hoks) s.heap [] 0 0 _ ⟨hP, va_S.rf, hI, rfl, rfl⟩ ?_
  have he := lv_entry (av.map (hv_t ρ)) (n := M.2.2.1) (by rw [hv_sl_len]; exact hav)
  refine ⟨he.1, he.2.1, fun i v hv => ?_⟩
  have h2 := hv_ent_get (ρ := ρ) av M.2.2.1 i 0 v hv
  rw [Nat.zero_add] at h2
  exact he.2.2 _ h2
end HM
