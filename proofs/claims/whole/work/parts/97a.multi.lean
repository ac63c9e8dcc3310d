/-! arrays of int arrays, made at once (multianewarray of two dimensions) -/
def hz_o (cA : ClassId) (h0 N i : Nat) : Cell := arrV cA N (fun j => if j < i then .ref (h0 + 1 + j) else .null)
def hz_i (comp : ClassId) (M : Nat) : Cell := arrV comp M (fun _ => .int 0)
def hz_fl (T : State) (cA comp : ClassId) (N M : Nat) : Nat → State
  | 0 => T.pushCell (hz_o cA T.heap.size N 0)
  | i + 1 => ((hz_fl T cA comp N M i).pushCell (hz_i comp M)).setCell T.heap.size (hz_o cA T.heap.size N (i + 1))
theorem hz_o_step (cA : ClassId) (h0 N i : Nat) : (hz_o cA h0 N i).setSlot i (.ref (h0 + 1 + i)) = hz_o cA h0 N (i + 1) := by
  unfold hz_o
  rw [arrV_store]
  congr 1
  funext j
  unfold updV
  by_cases hj : j = i
  · subst hj
    simp
  · by_cases h2 : j < i
    · have h3 : j < i + 1 := by omega
      simp [hj, h2, h3]
    · have h3 : ¬ j < i + 1 := by omega
      simp [hj, h2, h3]
theorem hz_o_0 (cA : ClassId) (h0 N : Nat) : hz_o cA h0 N 0 = { cls := cA, slots := Array.replicate N .null, vm := .none } := by
  rw [arrV_new]
  rfl
theorem hz_i_new (comp : ClassId) (M : Nat) : hz_i comp M = { cls := comp, slots := Array.replicate M (.int 0), vm := .none } := by
  rw [arrV_new]
  rfl
theorem hz_fl_at (T : State) (cA comp : ClassId) (N M : Nat) : ∀ i, (hz_fl T cA comp N M i).heap.size = T.heap.size + 1 + i ∧ (hz_fl T cA comp N M i).heap[T.heap.size]? = some (hz_o cA T.heap.size N i) ∧ (hz_fl T cA comp N M i).vm = T.vm ∧ (hz_fl T cA comp N M i).slotsUsed = T.slotsUsed + N + i * M ∧
    (∀ q, q < T.heap.size → (hz_fl T cA comp N M i).heap[q]? = T.heap[q]?) ∧ ∀ j, j < i → (hz_fl T cA comp N M i).heap[T.heap.size + 1 + j]? = some (hz_i comp M) := by
  intro i
  induction i with
  | zero =>
    refine ⟨by simp [hz_fl], by simp [hz_fl], rfl, ?_, fun q hq => ?_, fun j hj => absurd hj (Nat.not_lt_zero _)⟩
    · show T.slotsUsed + (hz_o cA T.heap.size N 0).slots.size = _
      rw [show (hz_o cA T.heap.size N 0).slots.size = N from arrV_size _ _ _]
      omega
    · show (T.heap.push _)[q]? = _
      rw [Array.getElem?_push, if_neg (Nat.ne_of_lt hq)]
  | succ i ih =>
    obtain ⟨a1, a2, a3, a4, a5, a6⟩ := ih
    have hl : T.heap.size < ((hz_fl T cA comp N M i).pushCell (hz_i comp M)).heap.size := by
      show T.heap.size < ((hz_fl T cA comp N M i).heap.push _).size
      rw [Array.size_push]
      omega
    refine ⟨?_, ?_, a3, ?_, fun q hq => ?_, fun j hj => ?_⟩
    · show (((hz_fl T cA comp N M i).heap.push _).setIfInBounds _ _).size = _
      rw [Array.size_setIfInBounds, Array.size_push, a1]
      omega
    · show (((hz_fl T cA comp N M i).heap.push _).setIfInBounds _ _)[_]? = _
      rw [Array.getElem?_setIfInBounds_self]
      exact if_pos hl
    · show (hz_fl T cA comp N M i).slotsUsed + (hz_i comp M).slots.size = _
      rw [show (hz_i comp M).slots.size = M from arrV_size _ _ _, a4, Nat.succ_mul]
      omega
    · show (((hz_fl T cA comp N M i).heap.push _).setIfInBounds _ _)[q]? = _
      rw [Array.getElem?_setIfInBounds_ne (by omega), Array.getElem?_push, if_neg (by omega)]
      exact a5 q hq
    · show (((hz_fl T cA comp N M i).heap.push _).setIfInBounds _ _)[_]? = _
      rw [Array.getElem?_setIfInBounds_ne (by omega), Array.getElem?_push]
      by_cases he : j = i
      · rw [if_pos (by rw [a1, he])]
      · rw [if_neg (by omega)]
        exact a6 j (by omega)
theorem hz_fl_top (T : State) (f : JFrame) (cA comp : ClassId) (N M : Nat) : ∀ i, hz_fl (T.setTop f) cA comp N M i = (hz_fl T cA comp N M i).setTop f := by
  intro i
  induction i with
  | zero => rfl
  | succ i ih => simp only [hz_fl, ih, State.heap_setTop, State.pushCell_setTop, State.setCell_setTop]
section HZM
variable {p : Program} {l : Launch} {e : Env} {R : Room} {s : State} {m : MethodId} {args : Array Value} {below : List Frame} {meth : Method} {c : Code} {H : Heap} {locs : List Loc} {cells slots : Nat} {Q : State → Prop}
theorem hz_fl_stand {T : State} (X : Stand p l e R s m args below meth c T locs cells slots) (cA comp : ClassId) (N M : Nat) : ∀ i, Stand p l e R s m args below meth c (hz_fl T cA comp N M i) (locs ++ (List.range i).map (fun j => (⟨T.heap.size, j⟩ : Loc))) (cells + 1 + i) (slots + N + i * M) := by
  intro i
  induction i with
  | zero =>
    have h := X.pushed (hz_o cA T.heap.size N 0)
    rw [show (hz_o cA T.heap.size N 0).slots.size = N from arrV_size _ _ _] at h
    simpa [hz_fl] using h
  | succ i ih =>
    obtain ⟨a1, a2, -, -, -, -⟩ := hz_fl_at T cA comp N M i
    have hc : ((hz_fl T cA comp N M i).pushCell (hz_i comp M)).heap[T.heap.size]? = some (hz_o cA T.heap.size N i) := by
      show ((hz_fl T cA comp N M i).heap.push _)[_]? = _
      rw [Array.getElem?_push, if_neg (by omega)]
      exact a2
    have h := (ih.pushed (hz_i comp M)).stored hc i (.ref (T.heap.size + 1 + i))
    rw [hz_o_step, show (hz_i comp M).slots.size = M from arrV_size _ _ _, List.append_assoc] at h
    have e1 : (List.range i).map (fun j => (⟨T.heap.size, j⟩ : Loc)) ++ [⟨T.heap.size, i⟩] = (List.range (i + 1)).map (fun j => (⟨T.heap.size, j⟩ : Loc)) := by
      rw [List.range_succ, List.map_append]
      rfl
    have e2 : slots + N + i * M + M = slots + N + (i + 1) * M := by rw [Nat.succ_mul]; omega
    rw [e1, e2] at h
    exact h
theorem hz_newArray {E : CtlPost} {d : Bool} {acts : List Action} {s : State} {c comp : ClassId} {k : Class} {type : FieldType} {len : Nat} {init : Value} (hk : s.vm.classes[c]? = some k) (hkind : k.kind = .array comp type)
    (h1 : ¬ len > e.platform.arrayLengthLimit) (h2 : ¬ len * componentBytes type > e.platform.maxHeapBytes) (h3 : fits type init = true) (h4 : init.isDefault = true) {Q : Addr → Pre} (h5 : s.heap.size < e.platform.maxCells) (h6 : s.slotsUsed + len ≤ e.platform.maxSlots)
    (hq : Q s.heap.size d acts (s.pushCell { cls := c, slots := Array.replicate len init, vm := .none })) : wp (_root_.Jvm.newArray c len init) Q E e d acts s := by
  have hf : ∀ (i : Nat) (v : Value), (Array.replicate len init)[i]? = some v → s.fitsSlot c .none i v = true := by
    intro i v hv
    rw [Array.getElem?_replicate] at hv
    split at hv
    · cases hv
      simp [State.fitsSlot, State.slotType?, hk, hkind, h3]
    · cases hv
  have ha : allocActs (Array.replicate len init) s.heap.size acts = acts := by
    unfold allocActs
    rw [if_pos (by rw [Array.all_replicate]; split <;> simp [h4])]
  simp only [_root_.Jvm.newArray, _root_.Jvm.arrayFits, wp_bind', _root_.Jvm.W.ask, _root_.Jvm.W.ite, h1, if_false, wp_pure', _root_.Jvm.W.theClass, hk, hkind, h2, _root_.Jvm.W.alloc, _root_.Jvm.W.stop, Option.some.injEq, exists_eq_left', Array.size_replicate, ha]
  rw [if_neg (by omega)]
  exact ⟨h5, h6, hf, hq⟩
theorem hz_make {E : CtlPost} {d : Bool} {acts : List Action} {S : State} {cA comp cc : ClassId} {kA kC : Class} {n k : Int32} {N M : Nat} (hkA : S.vm.classes[cA]? = some kA) (h4 : kA.kind = .array comp (.array .int)) (hkC : S.vm.classes[comp]? = some kC) (h6 : kC.kind = .array cc .int) (hn0 : ¬ n < 0) (hk0 : ¬ k < 0) (hn : n.toNatClampNeg = N) (hk : k.toNatClampNeg = M)
    (l1 : ¬ N > e.platform.arrayLengthLimit) (m1 : ¬ N * componentBytes (.array .int) > e.platform.maxHeapBytes) (l2 : ¬ M > e.platform.arrayLengthLimit) (m2 : ¬ M * componentBytes .int > e.platform.maxHeapBytes) (hc : S.heap.size + (1 + N) ≤ e.platform.maxCells) (hs : S.slotsUsed + (N + N * M) ≤ e.platform.maxSlots)
    {Q : Addr → Pre} (hq : ∀ d' acts', Q S.heap.size d' acts' (hz_fl S cA comp N M N)) : wp (_root_.Jvm.Op.multianewarray.make cA [n, k]) Q E e d acts S := by
  subst hn
  subst hk
  rw [_root_.Jvm.Op.multianewarray.make]
  simp only [wp_bind', _root_.Jvm.W.ite, hn0, if_false, wp_pure', _root_.Jvm.W.theClass, hkA, h4, Option.some.injEq, exists_eq_left']
  refine hz_newArray hkA h4 l1 m1 rfl rfl (by omega) (by omega) ?_
  have hfi : ([k].find? (fun x => decide (x < 0))) = none := by simp [hk0]
  simp only [hfi]
  rw [ite_self, wp_bind', Std.Legacy.Range.forIn_eq_forIn_range']
  have hsz : ([:n.toNatClampNeg] : Std.Legacy.Range).size = n.toNatClampNeg := by simp [Std.Legacy.Range.size]
  rw [hsz]
  show wp (forIn (List.range' 0 n.toNatClampNeg 1) PUnit.unit _) _ E e d acts _
  refine wp_forIn_inv (fun rest S' => ∃ i, i ≤ n.toNatClampNeg ∧ rest = List.range' i (n.toNatClampNeg - i) ∧ S' = hz_fl S cA comp n.toNatClampNeg k.toNatClampNeg i) _ _ ⟨0, Nat.zero_le _, rfl, by rw [hz_fl, hz_o_0]⟩ ?_ ?_
  · rintro x rest S' d' acts' Q' ⟨i, hi, hl, rfl⟩ hnext
    have hlt : i < n.toNatClampNeg := by
      rcases Nat.lt_or_ge i n.toNatClampNeg with h | h
      · exact h
      · rw [show n.toNatClampNeg - i = 0 from by omega] at hl
        cases hl
    rw [show n.toNatClampNeg - i = (n.toNatClampNeg - (i + 1)) + 1 from by omega, List.range'_succ] at hl
    obtain ⟨rfl, rfl⟩ := List.cons.inj hl
    obtain ⟨a1, a2, a3, a4, -, -⟩ := hz_fl_at S cA comp n.toNatClampNeg k.toNatClampNeg x
    have hmul : x * k.toNatClampNeg + k.toNatClampNeg ≤ n.toNatClampNeg * k.toNatClampNeg := by
      have := Nat.mul_le_mul_right k.toNatClampNeg (show x + 1 ≤ n.toNatClampNeg from hlt)
      rw [Nat.succ_mul] at this
      exact this
    simp only [wp_bind']
    rw [_root_.Jvm.Op.multianewarray.make]
    simp only [wp_bind', _root_.Jvm.W.ite, hk0, if_false, wp_pure', _root_.Jvm.W.theClass, a3, hkC, h6, Option.some.injEq, exists_eq_left']
    refine hz_newArray (by rw [a3]; exact hkC) h6 l2 m2 rfl rfl (by rw [a1]; omega) (by rw [a4]; omega) ?_
    rw [show (defaultValue .int : Value) = .int 0 from rfl, ← hz_i_new]
    have hcell : ((hz_fl S cA comp n.toNatClampNeg k.toNatClampNeg x).pushCell (hz_i comp k.toNatClampNeg)).heap[S.heap.size]? = some (hz_o cA S.heap.size n.toNatClampNeg x) := by
      show ((hz_fl S cA comp n.toNatClampNeg k.toNatClampNeg x).heap.push _)[_]? = _
      rw [Array.getElem?_push, if_neg (by omega)]
      exact a2
    simp only [wp_bind', _root_.Jvm.W.writeLoc, wp_pure']
    refine ⟨hz_o cA S.heap.size n.toNatClampNeg x, hcell, (fun h => by cases h), by rw [show (hz_o cA S.heap.size n.toNatClampNeg x).slots.size = n.toNatClampNeg from arrV_size _ _ _]; exact hlt, ?_, hnext _ _ _ ⟨x + 1, hlt, rfl, ?_⟩⟩
    · show State.fitsSlot _ cA .none x _ = true
      simp [State.fitsSlot, State.slotType?, a3, hkA, h4, fits]
    · show _ = ((hz_fl S cA comp n.toNatClampNeg k.toNatClampNeg x).pushCell (hz_i comp k.toNatClampNeg)).setCell S.heap.size (hz_o cA S.heap.size n.toNatClampNeg (x + 1))
      rw [← hz_o_step, a1]
  · rintro S' d' acts' ⟨i, hi, hl, rfl⟩
    have hiN : i = n.toNatClampNeg := by
      rcases Nat.lt_or_ge i n.toNatClampNeg with h | h
      · rw [show n.toNatClampNeg - i = (n.toNatClampNeg - (i + 1)) + 1 from by omega, List.range'_succ] at hl
        cases hl
      · omega
    subst hiN
    simp only [wp_pure']
    exact hq _ _
/-- what the tables say of int arrays in arrays, and stays so -/
def hz_M (U : State) : Prop := ∃ (cA comp cc : ClassId) (kA kC : Class), U.vm.findClass "[[I" = some cA ∧ U.vm.findClass "[I" = some comp ∧ U.vm.classes[cA]? = some kA ∧ kA.kind = .array comp (.array .int) ∧ U.vm.classes[comp]? = some kC ∧ kC.kind = .array cc .int
theorem hz_M.moved {u U : State} (hvm : u.vm.Alike U.vm) (h : hz_M u) : hz_M U := by
  obtain ⟨cA, comp, cc, kA, kC, h1, h2, h3, h4, h5, h6⟩ := h
  obtain ⟨kA', g1, g2⟩ := hvm.2.2 _ _ h3
  obtain ⟨kC', g3, g4⟩ := hvm.2.2 _ _ h5
  exact ⟨cA, comp, cc, kA', kC', by rw [hvm.findClass]; exact h1, by rw [hvm.findClass]; exact h2, g1, by rw [g2]; exact h4, g3, by rw [g4]; exact h6⟩
theorem hz_M.of {args : Array Value} {U : State} (h1 : (Cond.arrayOver (.array .int)).before args U = true) (h2 : (Cond.arrayClass .int).before args U = true) : hz_M U := by
  obtain ⟨comp, cA, kA, a1, -, a2, a3, a4⟩ := arrayOverA_spec h1
  obtain ⟨comp', kC, cc, b1, b2, b3⟩ := Cond.arrayClass_spec h2
  have hc : comp' = comp := Option.some.inj (b1.symm.trans a1)
  subst hc
  exact ⟨cA, comp', cc, kA, kC, a4, a1, a2, a3, b2, b3⟩
theorem hz_multi (hexec : p.tables.exec = Jvm.exec) {cc : ByteArray} (hb : c.code = cc) {own : String} {index : Nat} (hown : s.vm.findClass own = some m.cls) (hclink : (Cond.classLink own index "[[I").before args s = true) (hM : hz_M s)
    {pc : Nat} {ls : Array Slot} {rest : List Value} (hdg : decode cc pc = .ok (.multianewarray index 2, 4)) {n k : Int32} {N M : Nat} (hn0 : ¬ n < 0) (hk0 : ¬ k < 0) (hn : n.toNatClampNeg = N) (hk : k.toNatClampNeg = M) (hN : N * 4 ≤ 536870912) (hM4 : M * 4 ≤ 536870912)
    (hcells : cells + (1 + N) ≤ R.cells) (hslots : slots + (N + N * M) ≤ R.slots)
    (kk : ∀ (H1 : Heap) (locs1 : List Loc) (cA comp : ClassId), s.vm.findClass "[[I" = some cA → s.vm.findClass "[I" = some comp → H1.size = H.size + 1 + N → (∀ q, q < H.size → H1[q]? = H[q]?) → H1[H.size]? = some (arrV cA N (fun j => if j < N then .ref (H.size + 1 + j) else .null)) → (∀ j, j < N → H1[H.size + 1 + j]? = some (arrV comp M (fun _ => .int 0))) → (∀ q ∈ locs1, q ∈ locs ∨ q.base = H.size) →
      W p l e R s m args below meth c H1 locs1 (cells + 1 + N) (slots + N + N * M) Q (F0 m (pc + 4) ls (.ref H.size :: rest))) : W p l e R s m args below meth c H locs cells slots Q (F0 m pc ls (.int k :: .int n :: rest)) := by
  intro T hT X
  subst hT
  subst hb
  have hpl : e.platform.magicAccessors = ({} : Platform).magicAccessors := by rw [X.admits.platform]
  obtain ⟨cA, comp, cc, kA, kC, h1, h2, h3, h4, h5, h6⟩ := hM
  obtain ⟨c0, hfc0, hcl⟩ := Cond.classLink_spec hown hclink e.platform hpl
  cases h1.symm.trans hfc0
  obtain ⟨hg₁, hwarm₁, hready₁⟩ := State.classEntry (e := e) X.warmed hcl
  generalize T.vm.noted m.cls index (.cls cA) = vm₁ at hg₁ hwarm₁ hready₁
  have hal : s.vm.Alike vm₁ := hwarm₁.alike
  obtain ⟨kA₁, hkA₁, heA⟩ := hal.2.2 _ _ h3
  obtain ⟨kC₁, hkC₁, heC⟩ := hal.2.2 _ _ h5
  have hkA : kA₁.kind = .array comp (.array .int) := by rw [heA]; exact h4
  have hkC : kC₁.kind = .array cc .int := by rw [heC]; exact h6
  have X1 := X.noted hwarm₁
  obtain ⟨hr1, hr2⟩ := X.roomAbove hcells hslots
  have XF := hz_fl_stand X1 cA comp N M N
  obtain ⟨b1, b2, b3, b4, b5, b6⟩ := hz_fl_at (T.setVm vm₁) cA comp N M N
  obtain ⟨t, a1, a2⟩ := kk _ _ cA comp h1 h2 b1 b5 b2 b6 (fun q hq => by
    rcases List.mem_append.mp hq with h | h
    · exact Or.inl h
    · obtain ⟨j, -, rfl⟩ := List.mem_map.mp h
      exact Or.inr rfl) (hz_fl (T.setVm vm₁) cA comp N M N) rfl XF
  refine ⟨t, ?_, a2⟩
  have hl1 : ¬ N > e.platform.arrayLengthLimit := by rw [Launch.admits_arrayLengthLimit X.admits]; omega
  have hh1 : ¬ N * componentBytes (.array .int) > e.platform.maxHeapBytes := by
    rw [Launch.admits_maxHeapBytes X.admits]; show ¬ N * 4 > 536870912; omega
  have hl2 : ¬ M > e.platform.arrayLengthLimit := by rw [Launch.admits_arrayLengthLimit X.admits]; omega
  have hh2 : ¬ M * componentBytes .int > e.platform.maxHeapBytes := by
    rw [Launch.admits_maxHeapBytes X.admits]; show ¬ M * 4 > 536870912; omega
  jvm_step X.here [hexec, hdg]
  simp only [_root_.Jvm.Op.multianewarray.sem, wp_bind', _root_.Jvm.W.resolveClassAt_links (State.method?_setTop (F0 m pc ls (.int k :: .int n :: rest)) X.here.top) hg₁]
  rw [_root_.Jvm.W.popN, if_neg (by decide)]
  refine ⟨F0 m pc ls (.int k :: .int n :: rest), State.topJava?_setTop' (s := T.setVm vm₁) (F0 m pc ls (.int k :: .int n :: rest)) X.here.top, [.int n, .int k], rest, rfl, rfl, ?_⟩
  simp only [List.mapM_cons, List.mapM_nil, wp_bind', wp_pure']
  have eS : ((T.setTop (F0 m pc ls (Value.int k :: Value.int n :: rest))).setVm vm₁).setTop { method := m, pc := pc, locals := ls, stack := rest, locked := none } = (T.setVm vm₁).setTop (F0 m pc ls rest) := by
    show ((T.setVm vm₁).setTop _).setTop _ = _
    rw [State.setTop_setTop]
  rw [eS]
  refine hz_make (S := (T.setVm vm₁).setTop (F0 m pc ls rest)) hkA₁ hkA hkC₁ hkC hn0 hk0 hn hk hl1 hh1 hl2 hh2 hr1 hr2 (fun d' acts' => ?_)
  rw [hz_fl_top]
  simp only [wp_bind', _root_.Jvm.W.mark, _root_.Jvm.W.pushRef, State.topJava?_setTop' _ XF.here.top, Option.some.injEq, exists_eq_left', State.setTop_setTop, State.heap_setTop]
  intro acts
  simp [jvm, XF.here.top]
  exact a1
end HZM
