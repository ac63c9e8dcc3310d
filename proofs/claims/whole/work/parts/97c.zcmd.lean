/-! the constructors' commands -/
def hk_new (b ci N n1 : Nat) (K : hv_K hz_S) : hv_K hz_S := fun lo st x => (hh_cells[x.1]? = some (b, 0, ci, N) ∧ x.1 + 1 ≤ n1) ∧ K lo (.inr (.inr b) :: st) (x.1 + 1, x.2)
def hk_newa (b tg k n1 : Nat) (K : hv_K hz_S) : hv_K hz_S := fun lo st x => match st with
  | .inl z :: t => (z = (k : Nat) ∧ k ≤ 10000 ∧ hh_cells[x.1]? = some (b, 1, tg, k) ∧ x.1 + 1 ≤ n1) ∧ K lo (.inr (.inr b) :: t) (x.1 + 1, x.2)
  | _ => False
def hk_ones (b k : Nat) : List (Nat × Int) := (List.range k).map (fun j => (b + j, 1))
def hk_multi (b k1 k2 n1 : Nat) (K : hv_K hz_S) : hv_K hz_S := fun lo st x => match st with
  | .inl z2 :: .inl z1 :: t => ((z1 = (k1 : Nat) ∧ z2 = (k2 : Nat)) ∧ (k1 ≤ 10000 ∧ k2 ≤ 10000) ∧ hh_cells[x.1]? = some (b, 1, 7, k1) ∧ (∀ j, j < k1 → hh_cells[x.1 + 1 + j]? = some (b + k1 + j * k2, 1, 0, k2) ∧ hh_isr (b + j) = true ∧ hh_rf (b + j) = b + k1 + j * k2) ∧ x.1 + 1 + k1 ≤ n1) ∧ K lo (.inr (.inr b) :: t) (x.1 + 1 + k1, hk_ones b k1 ++ x.2)
  | _ => False
/-- a number into a field of the object at a, the p-th cell -/
def hk_putI (p a ci N k : Nat) (K : hv_K hz_S) : hv_K hz_S := fun lo st x => match st with
  | .inl z :: .inr (.inr a') :: t => (a' = a ∧ (z = 0 ∨ z = 1) ∧ hh_cells[p]? = some (a, 0, ci, N) ∧ p < x.1) ∧ K lo t (x.1, (a + k, z) :: x.2)
  | _ => False
def hk_putR (p a ci N k : Nat) (K : hv_K hz_S) : hv_K hz_S := fun lo st x => match st with
  | .inr (.inr v) :: .inr (.inr a') :: t => (a' = a ∧ hh_rf (a + k) = v ∧ hh_cells[p]? = some (a, 0, ci, N) ∧ p < x.1) ∧ K lo t (x.1, (a + k, 1) :: x.2)
  | _ => False
def hk_getR (p a ci N k v : Nat) (K : hv_K hz_S) : hv_K hz_S := fun lo st x => match st with
  | .inr (.inr a') :: t => (a' = a ∧ hh_rf (a + k) = v ∧ hh_cells[p]? = some (a, 0, ci, N) ∧ p < x.1 ∧ hz_m x.2 (a + k) ≠ 0) ∧ K lo (.inr (.inr v) :: t) x
  | _ => False
/-- a number into an array -/
def hk_iast (p a n : Nat) (K : hv_K hz_S) : hv_K hz_S := fun lo st x => match st with
  | .inl z :: .inl i :: .inr (.inr a') :: t => (a' = a ∧ 0 ≤ i ∧ i < (n : Nat) ∧ hh_cells[p]? = some (a, 1, 0, n) ∧ p < x.1) ∧ K lo t (x.1, (a + i.toNat, z) :: x.2)
  | _ => False
/-- an object (the q-th cell, at v) into an array of references -/
def hk_aast (p a tg n q v ci N : Nat) (K : hv_K hz_S) : hv_K hz_S := fun lo st x => match st with
  | .inr (.inr v') :: .inl i :: .inr (.inr a') :: t => ((a' = a ∧ v' = v) ∧ (0 ≤ i ∧ i < (n : Nat)) ∧ (hh_cells[p]? = some (a, 1, tg, n) ∧ p < x.1) ∧ (hh_cells[q]? = some (v, 0, ci, N) ∧ q < x.1) ∧ hh_rf (a + i.toNat) = v ∧ hh_isr (a + i.toNat) = true) ∧ K lo t (x.1, (a + i.toNat, 1) :: x.2)
  | _ => False
/-- Object's own constructor -/
def hk_obj (K : hv_K hz_S) : hv_K hz_S := fun lo st x => match st with
  | .inr (.inr _) :: t => hv_w t ≤ 8 ∧ K lo t x
  | _ => False
/-- a constructor's call: the object at a, the last of the cells k0; behind it there are k1 -/
def hk_call (l : Launch) (M : hm_M) (d2 a k0 k1 n1 : Nat) (ps : List (Nat × Int)) (K : hv_K hz_S) : hv_K hz_S := fun lo st x => match st with
  | .inr (.inr a') :: t => (a' = a ∧ x.1 = k0 ∧ (k0 ≤ k1 ∧ k1 ≤ n1) ∧ hv_w t ≤ 8) ∧ hz_V l M d2 a k0 k1 x.2 (ps ++ x.2) ∧ K lo t (k1, ps ++ x.2)
  | _ => False
def hk_ret (n1 : Nat) (L1 : List (Nat × Int)) : hv_K hz_S := fun _ st x => st = [] ∧ x = (n1, L1)
def hk_no : hv_K hz_S := fun _ _ _ => False
def hz_D0 (ci N : Nat) (ty : Nat → FieldType) : Prop := ∀ j, j < N → defaultValue (ty j) = if hh_fref ci j then .null else .int 0
theorem hz_obj_refs {p a ci N : Nat} (h : hh_cells[p]? = some (a, 0, ci, N)) : ∀ k, k < N → hh_isr (a + k) = hh_fref ci k := by
  have h2 := List.all_eq_true.mp hh_ok_obj _ (List.mem_of_getElem? h)
  simp only [decide_eq_true_eq] at h2
  exact (h2 trivial).2.2
theorem hz_arrV {cA : ClassId} {N : Nat} {f g : Nat → Value} (h : ∀ j, j < N → f j = g j) : arrV cA N f = arrV cA N g := by
  unfold arrV
  congr 2
  funext j
  exact h j.val j.isLt
theorem hz_m_cons {L : List (Nat × Int)} {a : Nat} {z : Int} : hz_m ((a, z) :: L) = hh_upd (hz_m L) a z := by
  funext b
  unfold hz_m hh_upd
  rw [List.lookup_cons]
  by_cases h : b = a
  · subst h
    simp
  · have h2 : (b == a) = false := by simp [h]
    simp [h, h2]
theorem hz_m_app {L M : List (Nat × Int)} {b : Nat} (h : ∀ q ∈ M, q.1 ≠ b) : hz_m (M ++ L) b = hz_m L b := by
  induction M with
  | nil => rfl
  | cons q M ih =>
    obtain ⟨a, z⟩ := q
    rw [List.cons_append, hz_m_cons, hh_upd_ne (fun e => h _ List.mem_cons_self e.symm)]
    exact ih (fun q hq => h q (List.mem_cons_of_mem _ hq))
theorem hk_ones_in {b k j : Nat} (L : List (Nat × Int)) (hj : j < k) : hz_m (hk_ones b k ++ L) (b + j) = 1 := by
  unfold hk_ones
  have key : ∀ (is : List Nat), j ∈ is → hz_m (is.map (fun j => (b + j, (1 : Int))) ++ L) (b + j) = 1 := by
    intro is
    induction is with
    | nil => intro h; cases h
    | cons i is ih =>
      intro h
      rw [List.map_cons, List.cons_append, hz_m_cons]
      by_cases hi : i = j
      · subst hi
        exact hh_upd_same _ _ _
      · rw [hh_upd_ne (by omega)]
        rcases List.mem_cons.mp h with h | h
        · exact absurd h.symm hi
        · exact ih h
  exact key _ (List.mem_range.mpr hj)
theorem hk_ones_out {b k c : Nat} (L : List (Nat × Int)) (hc : ∀ j, j < k → c ≠ b + j) : hz_m (hk_ones b k ++ L) c = hz_m L c := by
  refine hz_m_app (fun q hq => ?_)
  unfold hk_ones at hq
  obtain ⟨j, hj, rfl⟩ := List.mem_map.mp hq
  exact fun e => hc j (List.mem_range.mp hj) e.symm
section HQ
variable {p : Program} {l : Launch} {e : Env} {R : Room} {s : State} {m : MethodId} {args : Array Value} {below : List Frame} {meth : Method} {c : Code} {Q : State → Prop} {nL d h0 n0 n1 : Nat} {ρ : Nat → Nat} {D : va_G} {kA : Nat → ClassId} {cc : ByteArray} {own : String} {pc : Nat} {K Kt Kf : hv_K hz_S}
theorem hq_no : hw_S p l e R s m args below meth c Q nL ρ (hz_P D ρ kA h0 n0 s.heap) hk_no pc := fun _ _ _ h => h.elim
theorem hq_len {n : Nat} {c : Nat × Nat × Nat × Nat} (h : hh_cells[n]? = some c) : n ≤ hh_cells.length := Nat.le_of_lt (List.getElem?_eq_some_iff.mp h).1
theorem hq_new (X : hz_C p R s m args meth c own cc nL d D ρ kA h0 n0 n1) {C : String} {F : u_T} {N ci b index : Nat} {ty0 : Nat → FieldType} (hcf : hh_CF ci C F N ty0) (hd0 : hz_D0 ci N ty0) (w1 : Cond.classLink own index C ∈ hh_ws) (w2 : Cond.instantiable C N ∈ hh_ws) (w3 : Cond.initialized C ∈ hh_ws) (hd : decode cc pc = .ok (.new index, 3))
    (hK : hw_S p l e R s m args below meth c Q nL ρ (hz_P D ρ kA h0 n0 s.heap) K (pc + 3)) : hw_S p l e R s m args below meth c Q nL ρ (hz_P D ρ kA h0 n0 s.heap) (hk_new b ci N n1 K) pc := by
  obtain ⟨⟨hx, hb, hml, hown, hts, hroom, hcs, ⟨hK1, hnw, -⟩, hDh, hlk⟩, ⟨hR, hY⟩, hh0, hn01⟩ := X
  rintro lo st x ⟨⟨h1, h2⟩, h3⟩ hst hlo H locs ce sl ls ⟨⟨⟨hP, hsz, hle⟩, hS⟩, ⟨hI, hZ⟩, hce, hsl⟩ hl
  obtain ⟨g1, g2, g3, g4, g5, g6⟩ := hcf
  have f1 : hz_f x.1 = b := (hz_next h1).1
  have f2 : hz_f (x.1 + 1) = b + N := (hz_next h1).2
  have f3 := hz_mono h2
  have f4 := hz_mono hn01
  refine va_new hx hb hts g2 ty0 g3 hown (hts _ w1) (hts _ w2) (hts _ w3) hK1 hP (hz_W_D hR kA x.1 (hz_m x.2)) hS (fun q hq => Nat.le_trans (by rw [hh0]; omega) hq) g1 (fs := (List.range N).map (fun k => hz_fv ρ (hz_m x.2) (b + k))) (fun j hj => ?_) (by have := hcs.1; omega) (by have := hcs.2; omega) hd (fun q H1 hP1 hD1 hS1 => hz_sz (fun hs1 => ?_))
  · rw [hd0 j hj]
    unfold vp_V
    rw [List.getD_eq_getElem?_getD, List.getElem?_map, List.getElem?_range hj]
    show _ = hz_fv ρ (hz_m x.2) (b + j)
    unfold hz_fv
    rw [hz_obj_refs h1 j hj, hZ (b + j) (by rw [f1]; omega), if_pos rfl]
    rfl
  · obtain ⟨e1, e2⟩ := hz_fresh hR (hq_len h1) hP1 hD1 (by rw [hh0] at hs1; omega)
    have e3 : q = ρ b := by rw [e1]; exact (hR _ _ h1).symm
    subst e3
    have hP2 : va_P D vwCl (hz_W ρ kA (x.1 + 1) (hz_m x.2)) H1 := by
      rw [hz_W_succ h1]
      exact hP1
    exact hK lo (.inr (.inr b) :: st) (x.1 + 1, x.2) h3 (hv_oks_cons.mpr ⟨trivial, hst⟩) hlo H1 locs (ce + 1) (sl + N) ls ⟨⟨⟨hP2, by rw [e2]; rfl, (List.getElem?_eq_some_iff.mp h1).1⟩, hS1⟩, ⟨hI, fun a ha => hZ a (Nat.le_trans (hz_mono1 _) ha)⟩, by show ce + 1 + n0 = x.1 + 1; omega, by show sl + N + hz_f n0 = hz_f (x.1 + 1); omega⟩ hl
theorem hq_newa (X : hz_C p R s m args meth c own cc nL d D ρ kA h0 n0 n1) {b tg k : Nat} {atype : ArrayType} {ty : FieldType} (hty : newarray.typeOf atype = ty) (hdv : defaultValue ty = .int 0) (hcb : componentBytes ty ≤ 4) (htg : hh_ty tg = ty) (htg3 : tg < 3) (hra : ∀ (U : State) (cA : ClassId), va_RA U cA ty → U.vm.findClass ("[" ++ ty.toString) = some cA) (w1 : Cond.arrayClass ty ∈ hh_ws) (hd : decode cc pc = .ok (.newarray atype, 2))
    (hK : hw_S p l e R s m args below meth c Q nL ρ (hz_P D ρ kA h0 n0 s.heap) K (pc + 2)) : hw_S p l e R s m args below meth c Q nL ρ (hz_P D ρ kA h0 n0 s.heap) (hk_newa b tg k n1 K) pc := by
  obtain ⟨⟨hx, hb, hml, hown, hts, hroom, hcs, ⟨hK1, hnw, -⟩, hDh, hlk⟩, ⟨hR, hY⟩, hh0, hn01⟩ := X
  intro lo st x h
  unfold hk_newa at h
  split at h
  · rename_i z t
    obtain ⟨⟨rfl, hk1, h1, h2⟩, h3⟩ := h
    intro hst hlo H locs ce sl ls hP0 hl
    obtain ⟨⟨⟨hP, hsz, hle⟩, hS⟩, ⟨hI, hZ⟩, hce, hsl⟩ := hP0
    have f1 : hz_f x.1 = b := (hz_next h1).1
    have f2 : hz_f (x.1 + 1) = b + k := (hz_next h1).2
    have f3 := hz_mono h2
    have f4 := hz_mono hn01
    have hi := (hv_oks_cons.mp hst).1
    obtain ⟨t0, ht0⟩ := hh_tys_at (kA := kA) h1
    have hz0 : ∀ j, hz_m x.2 (b + j) = 0 := fun j => hZ (b + j) (by rw [f1]; omega)
    refine va_newa hx hb (by rw [hty]; exact hts _ w1) hty hK1 hP (hz_W_D hR kA x.1 (hz_m x.2)) hS (fun q hq => Nat.le_trans (by rw [hh0]; omega) hq) (N' := k) (a0 := (k, .inl (hh_fa (hz_m x.2) b k))) (fun cA => ?_) (fun hlt => by rw [hi_z, hi_lt hi hi_0] at hlt; omega) (by rw [hi_clamp hi]; exact Int.toNat_natCast k) ?_ (by have := hcs.1; omega) (by have := hcs.2; omega) hd (fun q cA H1 hKA hP1 hD1 hS1 => hz_sz (fun hs1 => ?_))
    · rw [vp_cell_i]
      refine hz_arrV (fun j hj => ?_)
      rw [hdv]
      unfold hh_fa
      rw [if_pos hj, hz0 j]
      rfl
    · exact Nat.le_trans (Nat.mul_le_mul hk1 hcb) (by decide)
    · obtain ⟨e1, e2⟩ := hz_fresh hR (hq_len h1) hP1 hD1 (by rw [hh0] at hs1; omega)
      have e3 : q = ρ b := by rw [e1]; exact (hR _ _ h1).symm
      subst e3
      have e4 : cA = kA b := by
        have q1 := hra s cA (hKA.2 (hh_tys kA).length (cA, ty) (by rw [List.getElem?_append_right (Nat.le_refl _), Nat.sub_self]; rfl)).2
        have q2 := (hK1.2 t0 _ ht0).2
        have q3 := hra s (kA b) (by rw [← htg]; exact q2)
        exact Option.some.inj (q1.symm.trans q3)
      subst e4
      have hP2 : va_P D vwCl (hz_W ρ kA (x.1 + 1) (hz_m x.2)) H1 := by
        rw [hz_W_succ h1]
        unfold hz_e
        rw [if_neg (show ¬ (1 : Nat) = 0 by decide), if_pos htg3]
        exact hP1
      exact hK lo (.inr (.inr b) :: t) (x.1 + 1, x.2) h3 (hv_oks_cons.mpr ⟨trivial, (hv_oks_cons.mp hst).2⟩) hlo H1 locs (ce + 1) (sl + k) ls ⟨⟨⟨hP2, by rw [e2]; rfl, (List.getElem?_eq_some_iff.mp h1).1⟩, hS1⟩, ⟨hI, fun a ha => hZ a (Nat.le_trans (hz_mono1 _) ha)⟩, by show ce + 1 + n0 = x.1 + 1; omega, by show sl + k + hz_f n0 = hz_f (x.1 + 1); omega⟩ hl
  · exact h.elim
theorem hq_newq (X : hz_C p R s m args meth c own cc nL d D ρ kA h0 n0 n1) {b tg k index : Nat} {C : String} (htg : hh_ty tg = .object C) (htg3 : ¬ tg < 3) (hAO : hz_Y s → va_AO C s) (w1 : Cond.classLink own index C ∈ hh_ws) (hd : decode cc pc = .ok (.anewarray index, 3))
    (hK : hw_S p l e R s m args below meth c Q nL ρ (hz_P D ρ kA h0 n0 s.heap) K (pc + 3)) : hw_S p l e R s m args below meth c Q nL ρ (hz_P D ρ kA h0 n0 s.heap) (hk_newa b tg k n1 K) pc := by
  obtain ⟨⟨hx, hb, hml, hown, hts, hroom, hcs, ⟨hK1, hnw, -⟩, hDh, hlk⟩, ⟨hR, hY⟩, hh0, hn01⟩ := X
  intro lo st x h
  unfold hk_newa at h
  split at h
  · rename_i z t
    obtain ⟨⟨rfl, hk1, h1, h2⟩, h3⟩ := h
    intro hst hlo H locs ce sl ls hP0 hl
    obtain ⟨⟨⟨hP, hsz, hle⟩, hS⟩, ⟨hI, hZ⟩, hce, hsl⟩ := hP0
    have f1 : hz_f x.1 = b := (hz_next h1).1
    have f2 : hz_f (x.1 + 1) = b + k := (hz_next h1).2
    have f3 := hz_mono h2
    have f4 := hz_mono hn01
    have hi := (hv_oks_cons.mp hst).1
    obtain ⟨t0, ht0⟩ := hh_tys_at (kA := kA) h1
    have hz0 : ∀ j, hz_m x.2 (b + j) = 0 := fun j => hZ (b + j) (by rw [f1]; omega)
    refine va_newq hx hb hown (hts _ w1) (hAO hY) hK1 hP (hz_W_D hR kA x.1 (hz_m x.2)) hS (fun q hq => Nat.le_trans (by rw [hh0]; omega) hq) (N' := k) (fun hlt => by rw [hi_z, hi_lt hi hi_0] at hlt; omega) (by rw [hi_clamp hi]; exact Int.toNat_natCast k) (Nat.le_trans (Nat.mul_le_mul hk1 (Nat.le_refl 4)) (by decide)) (by have := hcs.1; omega) (by have := hcs.2; omega) hd (fun q cA H1 hKA hP1 hD1 hS1 => hz_sz (fun hs1 => ?_))
    obtain ⟨e1, e2⟩ := hz_fresh hR (hq_len h1) hP1 hD1 (by rw [hh0] at hs1; omega)
    have e3 : q = ρ b := by rw [e1]; exact (hR _ _ h1).symm
    subst e3
    have e4 : cA = kA b := by
      have q1 := (hKA.2 (hh_tys kA).length (cA, .object C) (by rw [List.getElem?_append_right (Nat.le_refl _), Nat.sub_self]; rfl)).2
      have q2 := (hK1.2 t0 _ ht0).2
      rw [show hh_ty (b, 1, tg, k).2.2.1 = .object C from htg] at q2
      obtain ⟨_, _, -, -, -, q3⟩ := q1
      obtain ⟨_, _, -, -, -, q4⟩ := q2
      exact Option.some.inj (q3.symm.trans q4)
    subst e4
    have e5 : hz_rv ρ (hz_m x.2) b k = fun _ => none := by
      funext j
      unfold hz_rv
      rw [hz0 j]
      simp
    have hP2 : va_P D vwCl (hz_W ρ kA (x.1 + 1) (hz_m x.2)) H1 := by
      rw [hz_W_succ h1]
      unfold hz_e
      rw [if_neg (show ¬ (1 : Nat) = 0 by decide), if_neg htg3]
      show va_P D vwCl (hz_W ρ kA x.1 (hz_m x.2) ++ [(ρ b, .inl (kA b, k, .inr (.inr (.inr (.inr (hz_rv ρ (hz_m x.2) b k))))))]) H1
      rw [e5]
      exact hP1
    exact hK lo (.inr (.inr b) :: t) (x.1 + 1, x.2) h3 (hv_oks_cons.mpr ⟨trivial, (hv_oks_cons.mp hst).2⟩) hlo H1 locs (ce + 1) (sl + k) ls ⟨⟨⟨hP2, by rw [e2]; rfl, (List.getElem?_eq_some_iff.mp h1).1⟩, hS1⟩, ⟨hI, fun a ha => hZ a (Nat.le_trans (hz_mono1 _) ha)⟩, by show ce + 1 + n0 = x.1 + 1; omega, by show sl + k + hz_f n0 = hz_f (x.1 + 1); omega⟩ hl
  · exact h.elim
theorem hq_multi (X : hz_C p R s m args meth c own cc nL d D ρ kA h0 n0 n1) {b k1 k2 index : Nat} (w1 : Cond.classLink own index "[[I" ∈ hh_ws) (hd : decode cc pc = .ok (.multianewarray index 2, 4))
    (hK : hw_S p l e R s m args below meth c Q nL ρ (hz_P D ρ kA h0 n0 s.heap) K (pc + 4)) : hw_S p l e R s m args below meth c Q nL ρ (hz_P D ρ kA h0 n0 s.heap) (hk_multi b k1 k2 n1 K) pc := by
  obtain ⟨⟨hx, hb, hml, hown, hts, hroom, hcs, ⟨hK1, hnw, -⟩, hDh, hlk⟩, ⟨hR, hY⟩, hh0, hn01⟩ := X
  intro lo st x h
  unfold hk_multi at h
  split at h
  · rename_i z2 z1 t
    obtain ⟨⟨⟨rfl, rfl⟩, ⟨hk1, hk2⟩, h1, h2, h3⟩, h4⟩ := h
    intro hst hlo H locs ce sl ls hP0 hl
    obtain ⟨⟨⟨hP, hsz, hle⟩, hS⟩, ⟨hI, hZ⟩, hce, hsl⟩ := hP0
    have f1 : hz_f x.1 = b := (hz_next h1).1
    have f2 : hz_f (x.1 + 1) = b + k1 := (hz_next h1).2
    have f3 := hz_mono h3
    have f4 := hz_mono hn01
    have f5 : ∀ j, j ≤ k1 → hz_f (x.1 + 1 + j) = b + k1 + j * k2 := by
      intro j
      induction j with
      | zero => intro _; rw [Nat.zero_mul]; exact f2
      | succ j ih =>
        intro hj
        have q1 : hz_f (x.1 + 1 + j + 1) = b + k1 + j * k2 + k2 := (hz_next (h2 j (by omega)).1).2
        rw [Nat.succ_mul]
        rw [show x.1 + 1 + (j + 1) = x.1 + 1 + j + 1 from rfl, q1]
        omega
    have f6 := f5 k1 (Nat.le_refl _)
    have hi2 := (hv_oks_cons.mp hst).1
    have hi1 := (hv_oks_cons.mp (hv_oks_cons.mp hst).2).1
    obtain ⟨t0, ht0⟩ := hh_tys_at (kA := kA) h1
    have hz0 : ∀ a, b ≤ a → hz_m x.2 a = 0 := fun a ha => hZ a (by rw [f1]; exact ha)
    refine hz_multi hx hb hown (hts _ w1) hY.2 hd (N := k1) (M := k2) (fun hlt => by rw [hi_z, hi_lt hi1 hi_0] at hlt; omega) (fun hlt => by rw [hi_z, hi_lt hi2 hi_0] at hlt; omega) (by rw [hi_clamp hi1]; exact Int.toNat_natCast k1) (by rw [hi_clamp hi2]; exact Int.toNat_natCast k2) (by omega) (by omega) (by have := hcs.1; omega) (by have := hcs.2; omega) (fun H1 locs1 cA comp c1 c2 s1 o1 u1 v1 hlocs => ?_)
    have e1 : cA = kA b := by
      have q2 := (hK1.2 t0 _ ht0).2
      exact Option.some.inj (c1.symm.trans q2)
    subst e1
    have hout : ∀ (i : Nat) (cl : Nat × Nat × Nat × Nat), hh_cells[i]? = some cl → i ≠ x.1 → ∀ k, k < cl.2.2.2 → hz_m (hk_ones b k1 ++ x.2) (cl.1 + k) = hz_m x.2 (cl.1 + k) := fun i cl hc hi k hk => hk_ones_out _ (fun j hj => hh_apart hc h1 hi hk hj)
    have hP2 : va_P D vwCl (hz_W ρ kA (x.1 + 1 + k1) (hz_m (hk_ones b k1 ++ x.2))) H1 := by
      intro i q hq
      obtain ⟨cl, hc, hi, rfl⟩ := hz_W_inv hq
      rcases Nat.lt_trichotomy i x.1 with hlt | heq | hgt
      · rw [hz_e_keep (hout i cl hc (by omega))]
        refine (hP i _ (hz_W_at hc hlt)).kept (o1 _ ?_)
        show ρ cl.1 < H.size
        rw [hR i cl hc, hsz]
        omega
      · subst heq
        rw [h1] at hc
        cases hc
        show H1[ρ b]? = some (vp_cell (kA b) (k1, .inr (.inr (.inr (.inr (hz_rv ρ (hz_m (hk_ones b k1 ++ x.2)) b k1))))))
        rw [vp_cell_q, show ρ b = H.size by rw [hsz]; exact hR _ _ h1, u1]
        congr 1
        refine hz_arrV (fun j hj => ?_)
        unfold hz_rv
        rw [hk_ones_in _ hj, if_pos hj, if_pos ⟨hj, by decide⟩, (h2 j hj).2.2, hsz]
        show Value.ref (h0 + x.1 + 1 + j) = Value.ref (ρ (b + k1 + j * k2))
        have e7 := hR _ _ (h2 j hj).1
        have e8 : ρ (b + k1 + j * k2) = h0 + (x.1 + 1 + j) := e7
        rw [e8]
        have e9 : (h0 + x.1 + 1 + j : Nat) = h0 + (x.1 + 1 + j) := by omega
        exact congrArg Value.ref e9
      · obtain ⟨j, rfl⟩ := Nat.exists_eq_add_of_le (show x.1 + 1 ≤ i from hgt)
        have hj : j < k1 := by omega
        rw [hz_e_keep (hout _ cl hc (by omega))]
        have h5 := (h2 j hj).1
        rw [h5] at hc
        cases hc
        show H1[ρ (b + k1 + j * k2)]? = some (vp_cell (kA (b + k1 + j * k2)) (k2, .inl (hh_fa (hz_m x.2) (b + k1 + j * k2) k2)))
        have e2 : comp = kA (b + k1 + j * k2) := by
          obtain ⟨t2, ht2⟩ := hh_tys_at (kA := kA) h5
          exact Option.some.inj (c2.symm.trans (hK1.2 t2 _ ht2).2)
        rw [vp_cell_i, hR _ _ h5, ← e2, show h0 + (x.1 + 1 + j) = H.size + 1 + j by rw [hsz]; omega, v1 j hj]
        congr 1
        refine hz_arrV (fun i hi => ?_)
        unfold hh_fa
        rw [if_pos hi, hz0 _ (by omega)]
        rfl
    have hle2 : x.1 + 1 + k1 ≤ hh_cells.length := by
      cases k1 with
      | zero => exact (List.getElem?_eq_some_iff.mp h1).1
      | succ k => exact (List.getElem?_eq_some_iff.mp (h2 k (by omega)).1).1
    have hbA : hz_A h0 H.size := by show h0 ≤ H.size; rw [hsz]; omega
    have hS2 : va_S (hz_A h0) s.heap H1 locs1 := ⟨Nat.le_trans hS.1 (by omega), fun q q1 q2 => (o1 q (Nat.lt_of_lt_of_le q1 hS.1)).trans (hS.2.1 q q1 q2), fun q hq => by
      rcases hlocs q hq with h | h
      · exact hS.2.2 q h
      · rw [h]; exact hbA⟩
    rw [show Value.ref H.size = Value.ref (ρ b) by rw [hsz]; exact congrArg Value.ref (hR _ _ h1).symm]
    refine hK lo (.inr (.inr b) :: t) (x.1 + 1 + k1, hk_ones b k1 ++ x.2) h4 (hv_oks_cons.mpr ⟨trivial, (hv_oks_cons.mp (hv_oks_cons.mp hst).2).2⟩) hlo H1 locs1 (ce + 1 + k1) (sl + k1 + k1 * k2) ls ⟨⟨⟨hP2, by rw [s1, hsz]; show _ = h0 + (x.1 + 1 + k1); omega, hle2⟩, hS2⟩, ⟨fun a => ?_, fun a ha => ?_⟩, by show ce + 1 + k1 + n0 = x.1 + 1 + k1; omega, by show sl + k1 + k1 * k2 + hz_f n0 = hz_f (x.1 + 1 + k1); omega⟩ hl
    · by_cases ha : b ≤ a ∧ a < b + k1
      · obtain ⟨j, rfl⟩ := Nat.exists_eq_add_of_le ha.1
        show hv_I (hz_m (hk_ones b k1 ++ x.2) (b + j))
        rw [hk_ones_in _ (by omega)]
        decide
      · show hv_I (hz_m (hk_ones b k1 ++ x.2) a)
        rw [hk_ones_out _ (fun j hj => by omega)]
        exact hI a
    · have h6 : hz_f (x.1 + 1 + k1) ≤ a := ha
      show hz_m (hk_ones b k1 ++ x.2) a = 0
      rw [hk_ones_out _ (fun j hj => by omega)]
      exact hz0 a (by omega)
  · exact h.elim
theorem hk_inv {n : Nat} {p a N k : Nat} {tgc x : Nat} {z : Int} {L : List (Nat × Int)} (hz : hv_I z) (hc : hh_cells[p]? = some (a, tgc, x, N)) (hp : p < n) (hk : k < N) (h : (∀ a, hv_I (hz_m L a)) ∧ ∀ a, hz_f n ≤ a → hz_m L a = 0) : (∀ q, hv_I (hz_m ((a + k, z) :: L) q)) ∧ ∀ q, hz_f n ≤ q → hz_m ((a + k, z) :: L) q = 0 := by
  have f1 : hz_f (p + 1) = a + N := (hz_next hc).2
  have f2 := hz_mono (show p + 1 ≤ n from hp)
  rw [hz_m_cons]
  refine ⟨fun q => ?_, fun q hq => ?_⟩
  · unfold hh_upd
    split
    · exact hz
    · exact h.1 q
  · rw [hh_upd_ne (by omega)]
    exact h.2 q hq
theorem hk_put_e {mem : hm} {a k ci N : Nat} {z : Int} {v : Value} (hk : k < N) (hv : v = hz_fv ρ (hh_upd mem (a + k) z) (a + k)) : (va_E_r (ci, ((List.range N).map (fun k => hz_fv ρ mem (a + k))).set k v)) = hz_e ρ kA (hh_upd mem (a + k) z) (a, 0, ci, N) := by
  unfold hz_e va_E_r
  rw [if_pos rfl]
  congr 2
  apply List.ext_getElem?
  intro i
  by_cases hi : i = k
  · subst hi
    rw [List.getElem?_set_self (by simpa using hk), List.getElem?_map, List.getElem?_range hk, hv]
    rfl
  · rw [List.getElem?_set_ne (Ne.symm hi), List.getElem?_map, List.getElem?_map]
    by_cases hin : i < N
    · rw [List.getElem?_range hin]
      show some (hz_fv ρ mem (a + i)) = some (hz_fv ρ (hh_upd mem (a + k) z) (a + i))
      unfold hz_fv
      rw [hh_upd_ne (show a + i ≠ a + k by omega)]
    · rw [List.getElem?_eq_none (by simpa using hin)]
      rfl
theorem hq_putR (X : hz_C p R s m args meth c own cc nL d D ρ kA h0 n0 n1) (hin : meth.name = "<init>") {F : u_T} {N ci k q a index : Nat} {ty0 : Nat → FieldType} (hcf : hh_CF ci own F N ty0) (hk : k < N) (hfr : hh_fref ci k = true) (hfin : (F k).2.2.2 = true) (hdecl : (F k).1 = own) (hnar : ∀ r, narrow (ty0 k) (.ref r) = .ref r) (hfit : ∀ r, fits (ty0 k) (.ref r) = true) (w1 : Cond.fieldLink own index own (F k).2.1 (F k).2.2.1 ∈ hh_ws) (hd : decode cc pc = .ok (.putfield index, 3))
    (hK : hw_S p l e R s m args below meth c Q nL ρ (hz_P D ρ kA h0 n0 s.heap) K (pc + 3)) : hw_S p l e R s m args below meth c Q nL ρ (hz_P D ρ kA h0 n0 s.heap) (hk_putR q a ci N k K) pc := by
  obtain ⟨⟨hx, hb, hml, hown, hts, hroom, hcs, ⟨hK1, hnw, -⟩, hDh, hlk⟩, ⟨hR, hY⟩, hh0, hn01⟩ := X
  intro lo st x h
  unfold hk_putR at h
  split at h
  · rename_i v a' t
    obtain ⟨⟨rfl, rfl, h1, h2⟩, h3⟩ := h
    intro hst hlo H locs ce sl ls hP0 hl
    obtain ⟨⟨⟨hP, hsz, hle⟩, hS⟩, hIZ, hce, hsl⟩ := hP0
    obtain ⟨g1, g2, g3, g4, g5, g6⟩ := hcf
    refine va_putF hx hb hts g2 ty0 g3 g4 hown hK1 hP (hz_W_D hR kA x.1 (hz_m x.2)) hS q (fs := (List.range N).map (fun k => hz_fv ρ (hz_m x.2) (a' + k))) (by rw [hz_W_at h1 h2]; unfold hz_e; rw [if_pos rfl]) g1 k hk (hts _ w1) (fun z hz => by rw [← hdecl]; exact hz) hfin hin hdecl (g3 k hk) (hnar _) (hfit _) (by simpa using hk) hd (fun H1 locs1 hP1 hD1 hS1 => hz_sz (fun hs1 => ?_))
    have hI2 := hk_inv (z := 1) (by decide) h1 h2 hk hIZ
    have e1 : Value.ref (ρ (hh_rf (a' + k))) = hz_fv ρ (hh_upd (hz_m x.2) (a' + k) 1) (a' + k) := by
      unfold hz_fv
      rw [hz_obj_refs h1 k hk, hfr, hh_upd_same]
      rfl
    have hP2 : va_P D vwCl (hz_W ρ kA x.1 (hz_m ((a' + k, 1) :: x.2))) H1 := by
      rw [hz_m_cons]
      exact Eq.mp (congrArg (fun w => va_P D vwCl w H1) (hz_W_set (ρ := ρ) (kA := kA) (mem := hz_m x.2) (mem' := hh_upd (hz_m x.2) (a' + k) 1) h1 (hk_put_e (ρ := ρ) (kA := kA) hk e1) (fun b hb2 => hh_upd_ne (hb2 k hk)))) hP1
    have e2 : H1.size = h0 + x.1 := hz_keep hR hle (by omega) hP2 (by rw [hh0] at hs1; omega)
    exact hK lo t (x.1, (a' + k, 1) :: x.2) h3 (hv_oks_cons.mp (hv_oks_cons.mp hst).2).2 hlo H1 locs1 ce sl ls ⟨⟨⟨hP2, e2, hle⟩, hS1⟩, hI2, hce, hsl⟩ hl
  · exact h.elim
theorem hq_putI (X : hz_C p R s m args meth c own cc nL d D ρ kA h0 n0 n1) {F : u_T} {N ci k q a index : Nat} {ty0 : Nat → FieldType} (hcf : hh_CF ci own F N ty0) (hk : k < N) (hfr : hh_fref ci k = false) (hfin : (F k).2.2.2 = false) (hdecl : (F k).1 = own) (hty : ty0 k = .boolean) (w1 : Cond.fieldLink own index own (F k).2.1 (F k).2.2.1 ∈ hh_ws) (hd : decode cc pc = .ok (.putfield index, 3))
    (hK : hw_S p l e R s m args below meth c Q nL ρ (hz_P D ρ kA h0 n0 s.heap) K (pc + 3)) : hw_S p l e R s m args below meth c Q nL ρ (hz_P D ρ kA h0 n0 s.heap) (hk_putI q a ci N k K) pc := by
  obtain ⟨⟨hx, hb, hml, hown, hts, hroom, hcs, ⟨hK1, hnw, -⟩, hDh, hlk⟩, ⟨hR, hY⟩, hh0, hn01⟩ := X
  intro lo st x h
  unfold hk_putI at h
  split at h
  · rename_i z a' t
    obtain ⟨⟨rfl, hz01, h1, h2⟩, h3⟩ := h
    intro hst hlo H locs ce sl ls hP0 hl
    obtain ⟨⟨⟨hP, hsz, hle⟩, hS⟩, hIZ, hce, hsl⟩ := hP0
    obtain ⟨g1, g2, g3, g4, g5, g6⟩ := hcf
    have hzI : hv_I z := by rcases hz01 with rfl | rfl <;> decide
    refine va_put (v := .int (Int32.ofInt z)) (ty := .boolean) hx hb hts g2 ty0 g3 g4 hown hK1 hP (hz_W_D hR kA x.1 (hz_m x.2)) hS q (fs := (List.range N).map (fun k => hz_fv ρ (hz_m x.2) (a' + k))) (by rw [hz_W_at h1 h2]; unfold hz_e; rw [if_pos rfl]) g1 k hk (hts _ w1) (fun z hz => by rw [← hdecl]; exact hz) hfin (by rw [g3 k hk, hty]) (by rcases hz01 with rfl | rfl <;> decide) (by rcases hz01 with rfl | rfl <;> decide) (by simpa using hk) hd (fun H1 locs1 hP1 hD1 hS1 => hz_sz (fun hs1 => ?_))
    have hI2 := hk_inv (z := z) hzI h1 h2 hk hIZ
    have e1 : Value.int (Int32.ofInt z) = hz_fv ρ (hh_upd (hz_m x.2) (a' + k) z) (a' + k) := by
      unfold hz_fv
      rw [hz_obj_refs h1 k hk, hfr, hh_upd_same]
      rfl
    have hP2 : va_P D vwCl (hz_W ρ kA x.1 (hz_m ((a' + k, z) :: x.2))) H1 := by
      rw [hz_m_cons]
      exact Eq.mp (congrArg (fun w => va_P D vwCl w H1) (hz_W_set (ρ := ρ) (kA := kA) (mem := hz_m x.2) (mem' := hh_upd (hz_m x.2) (a' + k) z) h1 (hk_put_e (ρ := ρ) (kA := kA) hk e1) (fun b hb2 => hh_upd_ne (hb2 k hk)))) hP1
    have e2 : H1.size = h0 + x.1 := hz_keep hR hle (by omega) hP2 (by rw [hh0] at hs1; omega)
    exact hK lo t (x.1, (a' + k, z) :: x.2) h3 (hv_oks_cons.mp (hv_oks_cons.mp hst).2).2 hlo H1 locs1 ce sl ls ⟨⟨⟨hP2, e2, hle⟩, hS1⟩, hI2, hce, hsl⟩ hl
  · exact h.elim
theorem hq_getR (X : hz_C p R s m args meth c own cc nL d D ρ kA h0 n0 n1) {F : u_T} {N ci k q a v index : Nat} {ty0 : Nat → FieldType} (hcf : hh_CF ci own F N ty0) (hk : k < N) (hfr : hh_fref ci k = true) (hdecl : (F k).1 = own) (w1 : Cond.fieldLink own index own (F k).2.1 (F k).2.2.1 ∈ hh_ws) (hd : decode cc pc = .ok (.getfield index, 3))
    (hK : hw_S p l e R s m args below meth c Q nL ρ (hz_P D ρ kA h0 n0 s.heap) K (pc + 3)) : hw_S p l e R s m args below meth c Q nL ρ (hz_P D ρ kA h0 n0 s.heap) (hk_getR q a ci N k v K) pc := by
  obtain ⟨⟨hx, hb, hml, hown, hts, hroom, hcs, ⟨hK1, hnw, -⟩, hDh, hlk⟩, ⟨hR, hY⟩, hh0, hn01⟩ := X
  intro lo st x h
  unfold hk_getR at h
  split at h
  · rename_i a' t
    obtain ⟨⟨rfl, rfl, h1, h2, h4⟩, h3⟩ := h
    intro hst hlo H locs ce sl ls hP0 hl
    obtain ⟨⟨⟨hP, hsz, hle⟩, hS⟩, hIZ, hce, hsl⟩ := id hP0
    obtain ⟨g1, g2, g3, g4, g5, g6⟩ := hcf
    refine va_get (v := .ref (ρ (hh_rf (a' + k)))) hx hb hts g2 hown hK1 hP q (fs := (List.range N).map (fun k => hz_fv ρ (hz_m x.2) (a' + k))) (by rw [hz_W_at h1 h2]; unfold hz_e; rw [if_pos rfl]) g1 k hk (hts _ w1) (fun z hz => by rw [← hdecl]; exact hz) ?_ hd ?_
    · rw [List.getElem?_map, List.getElem?_range hk]
      show some (hz_fv ρ (hz_m x.2) (a' + k)) = _
      unfold hz_fv
      rw [hz_obj_refs h1 k hk, hfr, if_neg h4]
      rfl
    · exact hK lo (.inr (.inr (hh_rf (a' + k))) :: t) x h3 (hv_oks_cons.mpr ⟨trivial, (hv_oks_cons.mp hst).2⟩) hlo H locs ce sl ls hP0 hl
  · exact h.elim
theorem hq_iast (X : hz_C p R s m args meth c own cc nL d D ρ kA h0 n0 n1) {q a n : Nat} (hd : decode cc pc = .ok (.iastore, 1))
    (hK : hw_S p l e R s m args below meth c Q nL ρ (hz_P D ρ kA h0 n0 s.heap) K (pc + 1)) : hw_S p l e R s m args below meth c Q nL ρ (hz_P D ρ kA h0 n0 s.heap) (hk_iast q a n K) pc := by
  obtain ⟨⟨hx, hb, hml, hown, hts, hroom, hcs, ⟨hK1, hnw, -⟩, hDh, hlk⟩, ⟨hR, hY⟩, hh0, hn01⟩ := X
  intro lo st x h
  unfold hk_iast at h
  split at h
  · rename_i z i a' t
    obtain ⟨⟨rfl, hi0, hin, h1, h2⟩, h3⟩ := h
    intro hst hlo H locs ce sl ls hP0 hl
    obtain ⟨⟨⟨hP, hsz, hle⟩, hS⟩, hIZ, hce, hsl⟩ := hP0
    obtain ⟨t0, ht0⟩ := hh_tys_at (kA := kA) h1
    have hi := (hv_oks_cons.mp (hv_oks_cons.mp hst).2).1
    have hlt : i.toNat < n := by omega
    refine va_iast hx hb hK1 hP (hz_W_D hR kA x.1 (hz_m x.2)) hS q t0 (n := n) (f := hh_fa (hz_m x.2) a' n) (by rw [hz_W_at h1 h2]; rfl) ht0 ((hi_vp hi).mpr ⟨hi0, hin⟩) hd (fun H1 locs1 hP1 hD1 hS1 => hz_sz (fun hs1 => ?_))
    have hI2 := hk_inv (z := z) (hv_oks_cons.mp hst).1 h1 h2 hlt hIZ
    rw [hh_fa_upd hi hlt] at hP1
    have hP2 : va_P D vwCl (hz_W ρ kA x.1 (hz_m ((a' + i.toNat, z) :: x.2))) H1 := by
      rw [hz_m_cons]
      exact Eq.mp (congrArg (fun w => va_P D vwCl w H1) (hz_W_set (ρ := ρ) (kA := kA) (mem := hz_m x.2) (mem' := hh_upd (hz_m x.2) (a' + i.toNat) z) h1 rfl (fun b hb2 => hh_upd_ne (hb2 _ hlt)))) hP1
    have e2 : H1.size = h0 + x.1 := hz_keep hR hle (by omega) hP2 (by rw [hh0] at hs1; omega)
    exact hK lo t (x.1, (a' + i.toNat, z) :: x.2) h3 (hv_oks_cons.mp (hv_oks_cons.mp (hv_oks_cons.mp hst).2).2).2 hlo H1 locs1 ce sl ls ⟨⟨⟨hP2, e2, hle⟩, hS1⟩, hI2, hce, hsl⟩ hl
  · exact h.elim
theorem hq_aast (X : hz_C p R s m args meth c own cc nL d D ρ kA h0 n0 n1) {q a tg n w v ci N : Nat} {C : String} {F : u_T} {ty0 : Nat → FieldType} (hcf : hh_CF ci C F N ty0) (htg : hh_ty tg = .object C) (htg3 : ¬ tg < 3) (hd : decode cc pc = .ok (.aastore, 1))
    (hK : hw_S p l e R s m args below meth c Q nL ρ (hz_P D ρ kA h0 n0 s.heap) K (pc + 1)) : hw_S p l e R s m args below meth c Q nL ρ (hz_P D ρ kA h0 n0 s.heap) (hk_aast q a tg n w v ci N K) pc := by
  obtain ⟨⟨hx, hb, hml, hown, hts, hroom, hcs, ⟨hK1, hnw, -⟩, hDh, hlk⟩, ⟨hR, hY⟩, hh0, hn01⟩ := X
  intro lo st x h
  unfold hk_aast at h
  split at h
  · rename_i v' i a' t
    obtain ⟨⟨⟨rfl, rfl⟩, ⟨hi0, hin⟩, ⟨h1, h2⟩, ⟨h4, h5⟩, h6, h7⟩, h3⟩ := h
    intro hst hlo H locs ce sl ls hP0 hl
    obtain ⟨⟨⟨hP, hsz, hle⟩, hS⟩, hIZ, hce, hsl⟩ := hP0
    obtain ⟨g1, g2, g3, g4, g5, g6⟩ := hcf
    obtain ⟨t0, ht0⟩ := hh_tys_at (kA := kA) h1
    have hi := (hv_oks_cons.mp (hv_oks_cons.mp hst).2).1
    have hlt : i.toNat < n := by omega
    refine va_astq hx hb hK1 hP (hz_W_D hR kA x.1 (hz_m x.2)) hS q t0 w ci (r := (C, F, N)) (n := n) (f := hz_rv ρ (hz_m x.2) a' n) (vs := (List.range N).map (fun k => hz_fv ρ (hz_m x.2) (v' + k))) (by rw [hz_W_at h1 h2]; unfold hz_e; rw [if_neg (show ¬ (1 : Nat) = 0 by decide), if_neg htg3]) (by rw [ht0]; exact congrArg (fun z => some (kA a', z)) htg) (by rw [hz_W_at h4 h5]; unfold hz_e; rw [if_pos rfl]) g1 ((hi_vp hi).mpr ⟨hi0, hin⟩) hd (fun H1 locs1 hP1 hD1 hS1 => hz_sz (fun hs1 => ?_))
    have hI2 := hk_inv (z := 1) (by decide) h1 h2 hlt hIZ
    have e1 : va_up (hz_rv ρ (hz_m x.2) a' n) (Int32.ofInt i).toNatClampNeg (some (ρ v')) = hz_rv ρ (hh_upd (hz_m x.2) (a' + i.toNat) 1) a' n := by
      rw [hi_clamp hi]
      funext j
      unfold va_up hz_rv
      by_cases hj : j = i.toNat
      · subst hj
        rw [if_pos rfl, hh_upd_same, if_pos ⟨hlt, by decide⟩, h6]
      · rw [if_neg hj, hh_upd_ne (show a' + j ≠ a' + i.toNat by omega)]
    rw [e1] at hP1
    have e3 : (Sum.inl (kA a', n, Sum.inr (Sum.inr (Sum.inr (Sum.inr (hz_rv ρ (hh_upd (hz_m x.2) (a' + i.toNat) 1) a' n))))) : va_E) = hz_e ρ kA (hh_upd (hz_m x.2) (a' + i.toNat) 1) (a', 1, tg, n) := by
      unfold hz_e
      rw [if_neg (show ¬ (1 : Nat) = 0 by decide), if_neg htg3]
    have hP2 : va_P D vwCl (hz_W ρ kA x.1 (hz_m ((a' + i.toNat, 1) :: x.2))) H1 := by
      rw [hz_m_cons]
      exact Eq.mp (congrArg (fun w => va_P D vwCl w H1) (hz_W_set (ρ := ρ) (kA := kA) (mem := hz_m x.2) (mem' := hh_upd (hz_m x.2) (a' + i.toNat) 1) h1 e3 (fun b hb2 => hh_upd_ne (hb2 _ hlt)))) hP1
    have e2 : H1.size = h0 + x.1 := hz_keep hR hle (by omega) hP2 (by rw [hh0] at hs1; omega)
    exact hK lo t (x.1, (a' + i.toNat, 1) :: x.2) h3 (hv_oks_cons.mp (hv_oks_cons.mp (hv_oks_cons.mp hst).2).2).2 hlo H1 locs1 ce sl ls ⟨⟨⟨hP2, e2, hle⟩, hS1⟩, hI2, hce, hsl⟩ hl
  · exact h.elim
theorem hq_obj (X : hz_C p R s m args meth c own cc nL d D ρ kA h0 n0 n1) {idx : Nat} (hd1 : 1 ≤ d) (w1 : Cond.methodLink own idx Lib.objectInit ∈ hh_ws) (w2 : Cond.instanceMethod Lib.objectInit ∈ hh_ws) (w3 : Cond.code Lib.objectInit ⟨#[0xb1]⟩ 1 none ∈ hh_ws) (hd : decode cc pc = .ok (.invokespecial idx, 3))
    (hK : hw_S p l e R s m args below meth c Q nL ρ (hz_P D ρ kA h0 n0 s.heap) K (pc + 3)) : hw_S p l e R s m args below meth c Q nL ρ (hz_P D ρ kA h0 n0 s.heap) (hk_obj K) pc := by
  obtain ⟨⟨hx, hb, hml, hown, hts, hroom, hcs, -⟩, -⟩ := X
  intro lo st x h
  unfold hk_obj at h
  split at h
  · rename_i a' t
    obtain ⟨h1, h3⟩ := h
    intro hst hlo H locs ce sl ls hP0 hl
    refine W.objInit hx hb hown (hts _ w1) (hts _ w2) (hts _ w3) rfl (hl.1.trans hml.symm) (a := ρ a') (rest := t.map (hv_t ρ)) rfl hd (Nat.le_trans hd1 hroom.1) ?_ (hK lo t x h3 (hv_oks_cons.mp hst).2 hlo H locs ce sl ls hP0 hl)
    have q1 : ((t.map (hv_t ρ)).map fun v => v.category).sum ≤ 8 := by rw [hv_w_eq]; exact h1
    have q2 := hroom.2
    show 2 * 0 + ((t.map (hv_t ρ)).map fun v => v.category).sum + 12 ≤ R.locals
    omega
  · exact h.elim
theorem hq_call (X : hz_C p R s m args meth c own cc nL d D ρ kA h0 n0 n1) {M : hm_M} {d2 a k0 k1 index : Nat} {ps : List (Nat × Int)} {host : String} (w1 : Cond.instanceMethod M.1 ∈ hh_ws) (w2 : Cond.initialized M.1.cls ∈ hh_ws) (w3 : Cond.code M.1 M.2.1 M.2.2.1 M.2.2.2 ∈ hh_ws) (hr : M.2.2.2 = none) (hnm : M.1.name = "<init>") (hmh : M.1.cls ≠ "java/lang/invoke/MethodHandle" ∧ M.1.cls ≠ "java/lang/invoke/VarHandle" ∧ (parseMethodDescriptor M.1.desc).map (fun d => d.parameters.length) = some 0) (hL : M.2.2.1 ≤ 41) (w4 : Cond.methodLinkNest own index M.1 host ∈ hh_nw) (hd2 : d2 < d) (hd : decode cc pc = .ok (.invokespecial index, 3))
    (hK : hw_S p l e R s m args below meth c Q nL ρ (hz_P D ρ kA h0 n0 s.heap) K (pc + 3)) : hw_S p l e R s m args below meth c Q nL ρ (hz_P D ρ kA h0 n0 s.heap) (hk_call l M d2 a k0 k1 n1 ps K) pc := by
  obtain ⟨⟨hx, hb, hml, hown, hts, hroom, hcs, hK0, hDh, hlk⟩, ⟨hR, hY⟩, hh0, hn01⟩ := X
  intro lo st x h
  unfold hk_call at h
  split at h
  · rename_i a' t
    obtain ⟨⟨rfl, rfl, ⟨hk01, hk1⟩, hw⟩, hV, h3⟩ := h
    intro hst hlo H locs ce sl ls hP0 hl
    obtain ⟨⟨⟨hP, hsz, hle⟩, hS⟩, ⟨hI, hZ⟩, hce, hsl⟩ := hP0
    have f1 := hz_mono hk1
    have f2 := hz_mono hk01
    have f3 := hz_mono hn01
    have hM := hV D ρ kA h0 hR
    have hpre : ∀ U : State, U.heap = H → s.WarmedH U.vm → va_Pc [Value.ref (ρ a')] (hz_B D ρ kA h0 x.1 x.2) [Value.ref (ρ a')].toArray U := fun U hU hW => ⟨rfl, ⟨hK0.moved hW (fun q q1 q2 => by rw [hU]; exact hS.2.1 q q1 q2), hY.moved hW.alike⟩, ⟨by rw [hU]; exact hP, by rw [hU]; exact hsz, hle⟩, hI, hZ⟩
    have hRm : (hz_rm d2 x.1 k1).frames + 1 ≤ R.frames ∧ 8 + (M.2.2.1 + 11) + (hz_rm d2 x.1 k1).locals ≤ R.locals := ⟨Nat.le_trans hd2 hroom.1, by have := hroom.2; show 8 + (M.2.2.1 + 11) + 60 * d2 ≤ R.locals; omega⟩
    have hG : GoodIn hh_ws (hm_ws M) := hh_goodIn (fun w hw => by rcases List.mem_cons.mp hw with rfl | hw; exact w3; exact hw)
    have hM' : Met l M.1 (.code M.1 M.2.1 M.2.2.1 none :: hh_ws) (hz_rm d2 x.1 k1) (va_Pc [.ref (ρ a')] (hz_B D ρ kA h0 x.1 x.2)) (va_Qv (fun (_ : Unit) => True) (fun _ t => hz_B D ρ kA h0 k1 (ps ++ x.2) t) (hz_A h0)) (k1 - x.1) (hz_f k1 - hz_f x.1) (hz_A h0) := by
      have e1 : hm_ws M = .code M.1 M.2.1 M.2.2.1 none :: hh_ws := by unfold hm_ws; rw [hr]
      rw [← e1]
      exact hM
    have hG' : GoodIn hh_ws (.code M.1 M.2.1 M.2.2.1 none :: hh_ws) := by
      have e1 : hm_ws M = .code M.1 M.2.1 M.2.2.1 none :: hh_ws := by unfold hm_ws; rw [hr]
      rw [← e1]
      exact hG
    have hroomB : (t.map (hv_t ρ)).length = (t.map (hv_t ρ)).length := rfl
    refine va_callv (va_runIN (b := ρ a') (As := []) (rest := t.map (hv_t ρ)) ⟨hx, hb, hml, hown, hts⟩ hM' ⟨va_cnB 0 hts hG' rfl rfl rfl (hK0.2.1 _ w4) (hts _ w2) hmh hRm, hnm, hts _ w1⟩ ⟨hz_B.blind, hpre⟩ rfl rfl hl.1 rfl (lv_room (by rw [hv_w_eq]; exact hw)) hd ⟨by have := hcs.1; omega, by have := hcs.2; omega⟩) hS (fun q _ h => h) (fun q h => h) (fun u t1 H1 locs1 ht hvm hp hB hz1 hk2 hS1 => ?_)
    obtain ⟨-, ⟨b1, b2, b3⟩, b4, b5⟩ := hB
    rw [ht] at b1 b2
    exact hK lo t (k1, ps ++ x.2) h3 (hv_oks_cons.mp hst).2 hlo H1 locs1 (ce + (k1 - x.1)) (sl + (hz_f k1 - hz_f x.1)) ls ⟨⟨⟨b1, b2, b3⟩, hS1⟩, ⟨b4, b5⟩, by show ce + (k1 - x.1) + n0 = k1; omega, by show sl + (hz_f k1 - hz_f x.1) + hz_f n0 = hz_f k1; omega⟩ hl
  · exact h.elim
end HQ
