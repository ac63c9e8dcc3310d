/-! the constructors: cells come one by one, in the order of hh_cells; a ref place's number is 1 once it is set -/
abbrev hz_S : Type := Nat × List (Nat × Int)
def hz_f (n : Nat) : Nat := match hh_cells[n]? with
  | some c => c.1
  | none => 9295
def hz_m (L : List (Nat × Int)) : hm := fun a => (L.lookup a).getD 0
def hz_fv (ρ : Nat → Nat) (mem : hm) (a : Nat) : Value := if hh_isr a then (if mem a = 0 then .null else .ref (ρ (hh_rf a))) else .int (Int32.ofInt (mem a))
def hz_rv (ρ : Nat → Nat) (mem : hm) (b n : Nat) : Nat → Option Nat := fun j => if j < n ∧ mem (b + j) ≠ 0 then some (ρ (hh_rf (b + j))) else none
def hz_e (ρ : Nat → Nat) (kA : Nat → ClassId) (mem : hm) (c : Nat × Nat × Nat × Nat) : va_E :=
  if c.2.1 = 0 then .inr (c.2.2.1, (List.range c.2.2.2).map (fun k => hz_fv ρ mem (c.1 + k)))
  else if c.2.2.1 < 3 then .inl (kA c.1, c.2.2.2, .inl (hh_fa mem c.1 c.2.2.2))
  else .inl (kA c.1, c.2.2.2, .inr (.inr (.inr (.inr (hz_rv ρ mem c.1 c.2.2.2)))))
def hz_W (ρ : Nat → Nat) (kA : Nat → ClassId) (n : Nat) (mem : hm) : va_W := (hh_cells.take n).map (fun c => (ρ c.1, hz_e ρ kA mem c))
/-- where the cells lie: one behind another -/
def hz_R (ρ : Nat → Nat) (h0 : Nat) : Prop := ∀ (i : Nat) (c : Nat × Nat × Nat × Nat), hh_cells[i]? = some c → ρ c.1 = h0 + i
def hz_A (h0 : Nat) : Nat → Prop := fun q => h0 ≤ q
def hz_c (n : Nat) : Nat := match hh_cells[n]? with
  | some c => c.2.2.2
  | none => 0
theorem hz_next_ok : (List.range hh_cells.length).all (fun n => decide (hz_f (n + 1) = hz_f n + hz_c n)) = true := by decide +kernel
theorem hz_next {n : Nat} {c : Nat × Nat × Nat × Nat} (h : hh_cells[n]? = some c) : hz_f n = c.1 ∧ hz_f (n + 1) = c.1 + c.2.2.2 := by
  have hl := (List.getElem?_eq_some_iff.mp h).1
  have h2 := of_decide_eq_true (List.all_eq_true.mp hz_next_ok n (List.mem_range.mpr hl))
  have e1 : hz_f n = c.1 := by unfold hz_f; rw [h]
  have e2 : hz_c n = c.2.2.2 := by unfold hz_c; rw [h]
  exact ⟨e1, by rw [h2, e1, e2]⟩
theorem hz_mono1 (n : Nat) : hz_f n ≤ hz_f (n + 1) := by
  cases h : hh_cells[n]? with
  | some c =>
    obtain ⟨h1, h2⟩ := hz_next h
    omega
  | none =>
    have hl := List.getElem?_eq_none_iff.mp h
    have h2 : hh_cells[n + 1]? = none := List.getElem?_eq_none_iff.mpr (by omega)
    unfold hz_f
    rw [h, h2]
    exact Nat.le_refl _
theorem hz_mono {n k : Nat} (h : n ≤ k) : hz_f n ≤ hz_f k := by
  obtain ⟨d, rfl⟩ := Nat.exists_eq_add_of_le h
  induction d with
  | zero => exact Nat.le_refl _
  | succ d ih => exact Nat.le_trans (ih (by omega)) (hz_mono1 _)
theorem hz_W_at {ρ : Nat → Nat} {kA : Nat → ClassId} {n p : Nat} {mem : hm} {c : Nat × Nat × Nat × Nat} (h : hh_cells[p]? = some c) (hp : p < n) : (hz_W ρ kA n mem)[p]? = some (ρ c.1, hz_e ρ kA mem c) := by
  unfold hz_W
  rw [List.getElem?_map, List.getElem?_take, if_pos hp, h]
  rfl
theorem hz_W_inv {ρ : Nat → Nat} {kA : Nat → ClassId} {n p : Nat} {mem : hm} {q : Nat × va_E} (h : (hz_W ρ kA n mem)[p]? = some q) : ∃ c, hh_cells[p]? = some c ∧ p < n ∧ q = (ρ c.1, hz_e ρ kA mem c) := by
  unfold hz_W at h
  rw [List.getElem?_map, List.getElem?_take] at h
  split at h
  · rename_i hp
    cases hc : hh_cells[p]? with
    | none => rw [hc] at h; cases h
    | some c => rw [hc] at h; cases h; exact ⟨c, rfl, hp, rfl⟩
  · cases h
theorem hz_W_succ {ρ : Nat → Nat} {kA : Nat → ClassId} {n : Nat} {mem : hm} {c : Nat × Nat × Nat × Nat} (h : hh_cells[n]? = some c) : hz_W ρ kA (n + 1) mem = hz_W ρ kA n mem ++ [(ρ c.1, hz_e ρ kA mem c)] := by
  unfold hz_W
  rw [List.take_add_one, h, List.map_append]
  rfl
theorem hz_e_keep {ρ : Nat → Nat} {kA : Nat → ClassId} {mem mem' : hm} {c : Nat × Nat × Nat × Nat} (h : ∀ k, k < c.2.2.2 → mem' (c.1 + k) = mem (c.1 + k)) : hz_e ρ kA mem' c = hz_e ρ kA mem c := by
  unfold hz_e
  split
  · congr 2
    apply List.map_congr_left
    intro k hk
    unfold hz_fv
    rw [h k (List.mem_range.mp hk)]
  · split
    · congr 4
      funext j
      unfold hh_fa
      split
      · rename_i hj
        rw [h j hj]
      · rfl
    · congr 7
      funext j
      unfold hz_rv
      by_cases hj : j < c.2.2.2
      · rw [h j hj]
      · simp [hj]
theorem hz_W_set {ρ : Nat → Nat} {kA : Nat → ClassId} {n p : Nat} {mem mem' : hm} {c : Nat × Nat × Nat × Nat} {e : va_E} (h : hh_cells[p]? = some c) (he : e = hz_e ρ kA mem' c) (hk : ∀ b, (∀ k, k < c.2.2.2 → b ≠ c.1 + k) → mem' b = mem b) : (hz_W ρ kA n mem).set p (ρ c.1, e) = hz_W ρ kA n mem' := by
  apply List.ext_getElem?
  intro i
  unfold hz_W
  by_cases hi : i = p
  · subst hi
    by_cases hn : i < n
    · rw [List.getElem?_set_self (by rw [List.length_map, List.length_take]; have := (List.getElem?_eq_some_iff.mp h).1; omega), List.getElem?_map, List.getElem?_take, if_pos hn, h, he]
      rfl
    · rw [List.getElem?_eq_none (by rw [List.length_set, List.length_map, List.length_take]; omega), List.getElem?_eq_none (by rw [List.length_map, List.length_take]; omega)]
  · rw [List.getElem?_set_ne (Ne.symm hi), List.getElem?_map, List.getElem?_map, List.getElem?_take]
    split
    · cases hc : hh_cells[i]? with
      | none => rfl
      | some d =>
        show some (ρ d.1, hz_e ρ kA mem d) = some (ρ d.1, hz_e ρ kA mem' d)
        rw [hz_e_keep (mem := mem) (mem' := mem') (fun k hkd => hk _ (fun q hq hz => hh_apart hc h hi hkd hq hz))]
    · rfl
theorem hz_W_D {ρ : Nat → Nat} {h0 : Nat} (hR : hz_R ρ h0) (kA : Nat → ClassId) (n : Nat) (mem : hm) : va_D (hz_A h0) (hz_W ρ kA n mem) := by
  refine ⟨fun i j x y hi hj hxy => ?_, fun k q hk => ?_⟩
  · obtain ⟨c, h1, -, rfl⟩ := hz_W_inv hi
    obtain ⟨d, h2, -, rfl⟩ := hz_W_inv hj
    have h3 : ρ c.1 = ρ d.1 := hxy
    rw [hR i c h1, hR j d h2] at h3
    omega
  · obtain ⟨c, h1, -, rfl⟩ := hz_W_inv hk
    show h0 ≤ ρ c.1
    rw [hR k c h1]
    omega
theorem hz_hh_D {ρ : Nat → Nat} {h0 : Nat} (hR : hz_R ρ h0) (kA : Nat → ClassId) (mem : hm) : va_D (hz_A h0) (hh_W ρ kA mem) := by
  have key : ∀ (k : Nat) (q : Nat × va_E), (hh_W ρ kA mem)[k]? = some q → q.1 = h0 + k := by
    intro k q hk
    unfold hh_W at hk
    rw [List.getElem?_map] at hk
    cases hc : hh_cells[k]? with
    | none => rw [hc] at hk; cases hk
    | some c => rw [hc] at hk; cases hk; exact hR k c hc
  refine ⟨fun i j x y hi hj hxy => ?_, fun k q hk => ?_⟩
  · have h1 := key i x hi
    have h2 := key j y hj
    omega
  · show h0 ≤ q.1
    rw [key k q hk]
    omega
/-- a cell that has come: it lies behind all others -/
theorem hz_fresh {D : va_G} {cl : List vw_C} {ρ : Nat → Nat} {kA : Nat → ClassId} {h0 n q : Nat} {mem : hm} {e : va_E} {H1 : Heap} (hR : hz_R ρ h0) (hn : n ≤ hh_cells.length) (hP : va_P D cl (hz_W ρ kA n mem ++ [(q, e)]) H1) (hD : va_D (hz_A h0) (hz_W ρ kA n mem ++ [(q, e)])) (hs : H1.size ≤ h0 + n + 1) : q = h0 + n ∧ H1.size = h0 + n + 1 := by
  have hlen : (hz_W ρ kA n mem).length = n := by
    unfold hz_W
    rw [List.length_map, List.length_take]
    omega
  have hlast : (hz_W ρ kA n mem ++ [(q, e)])[n]? = some (q, e) := by
    rw [List.getElem?_append_right (by omega), hlen]
    simp
  have hlt := (hP n _ hlast).lt
  have hge : h0 ≤ q := hD.2 n _ hlast
  have hq : q = h0 + n := by
    rcases Nat.lt_or_ge q (h0 + n) with h | h
    · obtain ⟨i, rfl⟩ := Nat.exists_eq_add_of_le hge
      have hi : i < n := by omega
      have hc : hh_cells[i]? = some hh_cells[i] := List.getElem?_eq_getElem (by omega)
      have h1 : (hz_W ρ kA n mem ++ [(h0 + i, e)])[i]? = some (ρ hh_cells[i].1, hz_e ρ kA mem hh_cells[i]) := by
        rw [List.getElem?_append_left (by omega)]
        exact hz_W_at hc hi
      have := hD.1 i n _ _ h1 hlast (hR i _ hc)
      omega
    · have h2 : q < H1.size := hlt
      omega
  exact ⟨hq, by have h2 : q < H1.size := hlt; omega⟩
theorem hz_keep {D : va_G} {cl : List vw_C} {ρ : Nat → Nat} {kA : Nat → ClassId} {h0 n : Nat} {mem : hm} {H1 : Heap} (hR : hz_R ρ h0) (hn : n ≤ hh_cells.length) (h1 : 0 < n) (hP : va_P D cl (hz_W ρ kA n mem) H1) (hs : H1.size ≤ h0 + n) : H1.size = h0 + n := by
  have hc : hh_cells[n - 1]? = some hh_cells[n - 1] := List.getElem?_eq_getElem (by omega)
  have h2 : ρ hh_cells[n - 1].1 < H1.size := (hP (n - 1) _ (hz_W_at hc (by omega))).lt
  rw [hR _ _ hc] at h2
  omega
section HZW
variable {p : Program} {l : Launch} {e : Env} {R : Room} {s : State} {m : MethodId} {args : Array Value} {below : List Frame} {meth : Method} {c : Code} {H : Heap} {locs : List Loc} {cells slots : Nat} {Q : State → Prop}
theorem hz_sz {g : JFrame} (k : H.size ≤ s.heap.size + cells → W p l e R s m args below meth c H locs cells slots Q g) : W p l e R s m args below meth c H locs cells slots Q g := fun T hT X => k (by have := X.heapSize; rw [hT] at this; exact this) T hT X
end HZW
/-- what the tables say of arrays of references, and stays so -/
def hz_Y (U : State) : Prop := (va_AO "HeelsIn$Sheet" U ∧ va_AO "HeelsIn$Match" U ∧ va_AO "HeelsIn$Side" U ∧ va_AO "HeelsIn$Tug" U) ∧ hz_M U
theorem hz_Y.moved {u U : State} (hvm : u.vm.Alike U.vm) (h : hz_Y u) : hz_Y U := ⟨⟨h.1.1.moved hvm, h.1.2.1.moved hvm, h.1.2.2.1.moved hvm, h.1.2.2.2.moved hvm⟩, h.2.moved hvm⟩
/-- the state at a constructor's start and end -/
def hz_B (D : va_G) (ρ : Nat → Nat) (kA : Nat → ClassId) (h0 n : Nat) (L : List (Nat × Int)) (U : State) : Prop := (hx_K D ρ kA (hz_A h0) U ∧ hz_Y U) ∧ (va_P D vwCl (hz_W ρ kA n (hz_m L)) U.heap ∧ U.heap.size = h0 + n ∧ n ≤ hh_cells.length) ∧ (∀ a, hv_I (hz_m L a)) ∧ ∀ a, hz_f n ≤ a → hz_m L a = 0
def hz_P (D : va_G) (ρ : Nat → Nat) (kA : Nat → ClassId) (h0 n0 : Nat) (H0 : Heap) : hz_S → Heap → List Loc → Nat → Nat → Prop := fun x H locs ce sl =>
  ((va_P D vwCl (hz_W ρ kA x.1 (hz_m x.2)) H ∧ H.size = h0 + x.1 ∧ x.1 ≤ hh_cells.length) ∧ va_S (hz_A h0) H0 H locs) ∧ ((∀ a, hv_I (hz_m x.2 a)) ∧ ∀ a, hz_f x.1 ≤ a → hz_m x.2 a = 0) ∧ ce + n0 = x.1 ∧ sl + hz_f n0 = hz_f x.1
def hz_C (p : Program) (R : Room) (s : State) (m : MethodId) (args : Array Value) (meth : Method) (c : Code) (own : String) (cc : ByteArray) (nL d : Nat) (D : va_G) (ρ : Nat → Nat) (kA : Nat → ClassId) (h0 n0 n1 : Nat) : Prop :=
  hx_C p R s m args meth c own cc nL d D ρ kA (hz_A h0) (n1 - n0) (hz_f n1 - hz_f n0) ∧ (hz_R ρ h0 ∧ hz_Y s) ∧ s.heap.size = h0 + n0 ∧ n0 ≤ n1
def hz_rm (d n0 n1 : Nat) : Room := { frames := d, cells := n1 - n0, slots := hz_f n1 - hz_f n0, locals := 60 * d }
/-- the constructor of the cell at a, which is the last of n0: from the numbers L to the numbers L1, with n1 cells -/
def hz_V (l : Launch) (M : hm_M) (d a n0 n1 : Nat) (L L1 : List (Nat × Int)) : Prop :=
  ∀ (D : va_G) (ρ : Nat → Nat) (kA : Nat → ClassId) (h0 : Nat), hz_R ρ h0 → Met l M.1 (hm_ws M) (hz_rm d n0 n1) (va_Pc [.ref (ρ a)] (hz_B D ρ kA h0 n0 L)) (va_Qv (fun (_ : Unit) => True) (fun _ t => hz_B D ρ kA h0 n1 L1 t) (hz_A h0)) (n1 - n0) (hz_f n1 - hz_f n0) (hz_A h0)
theorem hz_B.blind {D : va_G} {ρ : Nat → Nat} {kA : Nat → ClassId} {h0 n : Nat} {L : List (Nat × Int)} {av : List Value} : FrameBlind (va_Pc av (hz_B D ρ kA h0 n L)) := fun a U g mk h => ⟨h.1, ⟨h.2.1.1.same rfl rfl, h.2.1.2.moved (Vm.Alike.refl _)⟩, h.2.2⟩
theorem hz_V_of {l : Launch} {M : hm_M} {d a n0 n1 : Nat} {L L1 : List (Nat × Int)} (hy : plainName M.1.cls = true) (hi : M.1.name = "<init>") (hr : M.2.2.2 = none) (hav : 1 ≤ M.2.2.1) (hn : n0 ≤ n1)
    (body : ∀ (p : Program) (e : Env) (R : Room) (s : State) (m : MethodId) (args : Array Value) (below : List Frame) (meth : Method) (c : Code) (D : va_G) (ρ : Nat → Nat) (kA : Nat → ClassId) (h0 : Nat) (QF : State → Prop) (X : hz_C p R s m args meth c M.1.cls M.2.1 M.2.2.1 d D ρ kA h0 n0 n1) (_ : meth.name = "<init>")
      (_ : ∀ pc, decode M.2.1 pc = .ok (.return_, 1) → hw_S p l e R s m args below meth c QF M.2.2.1 ρ (hz_P D ρ kA h0 n0 s.heap) (fun _ st x => st = [] ∧ x = (n1, L1)) pc),
      hw_C p l e R s m args below meth c QF M.2.2.1 ρ (hz_P D ρ kA h0 n0 s.heap) 0 (hv_ent [.inr (.inr a)] M.2.2.1) [] (n0, L)) : hz_V l M d a n0 n1 L L1 := by
  intro D ρ kA h0 hR
  refine Met.ofW (cc := M.2.1) (maxL := M.2.2.1) (ret := M.2.2.2) hy rfl ?_
  intro p e s m args below meth c s₁ B hml hv
  obtain ⟨rfl, ⟨hK, hY⟩, ⟨hP, hsz, hle⟩, hI, hZ⟩ := hv
  have hts : ∀ w ∈ hm_ws M, w.before [Value.ref (ρ a)].toArray s = true := atoms_spec (ws := hm_ws M) B.pre
  have hown : s.vm.findClass M.1.cls = some m.cls := findClass_of_methodNamed B.named
  have X0 : hx_C p (headSpec (hm_ws M) (hz_rm d n0 n1)).room s m [Value.ref (ρ a)].toArray meth c M.1.cls M.2.1 M.2.2.1 d D ρ kA (hz_A h0) (n1 - n0) (hz_f n1 - hz_f n0) := ⟨B.exec, B.bytes, hml, hown, fun w hw => hts w (List.mem_cons_of_mem _ hw), ⟨Nat.le_refl _, Nat.le_refl _⟩, ⟨Nat.le_refl _, Nat.le_refl _⟩, hK, hz_hh_D hR kA, B.notSynchronized⟩
  have X : hz_C p (headSpec (hm_ws M) (hz_rm d n0 n1)).room s m [Value.ref (ρ a)].toArray meth c M.1.cls M.2.1 M.2.2.1 d D ρ kA h0 n0 n1 := ⟨X0, ⟨hR, hY⟩, hsz, hn⟩
  have hmn : meth.name = "<init>" := by rw [← hi]; exact (name_of_methodNamed B.named B.method).1
  have hb := body p e _ s m _ below meth c D ρ kA h0 (MQ below (va_Qv (fun (_ : Unit) => True) (fun _ t => hz_B D ρ kA h0 n1 L1 t) (hz_A h0)) [Value.ref (ρ a)].toArray s (n1 - n0) (hz_f n1 - hz_f n0) (hz_A h0)) X hmn (fun pc hd => ?_)
  · rw [lg_entry_eq]
    refine hb (fun v hv => by cases hv) (hv_okl_ent _ _ (fun v hv => by rcases List.mem_singleton.mp hv with rfl; trivial)) s.heap [] 0 0 _ ⟨⟨⟨hP, hsz, hle⟩, va_S.rf⟩, ⟨hI, hZ⟩, Nat.zero_add _, Nat.zero_add _⟩ ?_
    have he := lv_entry [Value.ref (ρ a)] (n := M.2.2.1) (by simpa [lg_sl, Value.category] using hav)
    refine ⟨he.1, he.2.1, fun i v hv => ?_⟩
    have h2 := hv_ent_get (ρ := ρ) [.inr (.inr a)] M.2.2.1 i 0 v hv
    rw [Nat.zero_add] at h2
    exact he.2.2 _ h2
  · rintro lo st x ⟨rfl, rfl⟩ - hlo H locs ce sl ls ⟨⟨⟨hP1, hs1, hle1⟩, hS⟩, ⟨hI1, hZ1⟩, hce, hsl⟩ hl
    have e1 : ce = n1 - n0 := by have h : ce + n0 = n1 := hce; omega
    have e2 : sl = hz_f n1 - hz_f n0 := by have h : sl + hz_f n0 = hz_f n1 := hsl; omega
    subst e1
    subst e2
    refine W.vret B.exec B.bytes (by rw [← hr]; exact B.returns) (fun t ht hW => ⟨⟨(), rfl, trivial, ⟨?_, hY.moved hW.alike⟩, ⟨by rw [ht]; exact hP1, by rw [ht]; exact hs1, hle1⟩, hI1, hZ1⟩, hS.F ht⟩) hS.2.2 hd B.notSynchronized
    exact hK.moved hW (fun q h1 h2 => by rw [ht]; exact hS.2.1 q h1 h2)
