/-! THE LAYER, core: values as Int, locals and stacks as lists, commands in continuation form, and what they mean over the machine -/
abbrev hv_V : Type := Int ⊕ (Int ⊕ Nat)
abbrev Vi (z : Int) : hv_V := .inl z
abbrev Vl (z : Int) : hv_V := .inr (.inl z)
abbrev Vr (a : Nat) : hv_V := .inr (.inr a)
abbrev hv_L : Type := List (Option hv_V)
abbrev hv_K (σ : Type) : Type := hv_L → List hv_V → σ → Prop
/-- in the range of an int -/
abbrev hv_I (z : Int) : Prop := -2147483648 ≤ z ∧ z < 2147483648
abbrev hv_J (z : Int) : Prop := -9223372036854775808 ≤ z ∧ z < 9223372036854775808
def hv_ok : hv_V → Prop
  | .inl z => hv_I z
  | .inr (.inl z) => hv_J z
  | .inr (.inr _) => True
def hv_t (ρ : Nat → Nat) : hv_V → Value
  | .inl z => .int (Int32.ofInt z)
  | .inr (.inl z) => .long (Int64.ofInt z)
  | .inr (.inr a) => .ref (ρ a)
def hv_cat : hv_V → Nat
  | .inl _ => 1
  | .inr (.inl _) => 2
  | .inr (.inr _) => 1
def hv_w : List hv_V → Nat
  | [] => 0
  | v :: l => hv_cat v + hv_w l
theorem hv_cat_eq (ρ : Nat → Nat) (v : hv_V) : (hv_t ρ v).category = hv_cat v := by
  rcases v with z | z | a <;> rfl
theorem hv_w_eq (ρ : Nat → Nat) (l : List hv_V) : ((l.map (hv_t ρ)).map fun v => v.category).sum = hv_w l := by
  induction l with
  | nil => rfl
  | cons v l ih => simp only [List.map_cons, List.sum_cons, hv_w, ih, hv_cat_eq]
def hv_get : hv_L → Nat → Option hv_V
  | [], _ => none
  | x :: _, 0 => x
  | _ :: l, n + 1 => hv_get l n
def hv_set : hv_L → Nat → hv_V → hv_L
  | [], _, _ => []
  | _ :: l, 0, v => some v :: l
  | x :: l, n + 1, v => x :: hv_set l n v
def hv_set2 : hv_L → Nat → hv_V → hv_L
  | [], _, _ => []
  | [x], _, _ => [x]
  | _ :: _ :: l, 0, v => some v :: none :: l
  | x :: y :: l, n + 1, v => x :: hv_set2 (y :: l) n v
/-- only what the mask says is kept -/
def hv_mask : List Bool → hv_L → hv_L
  | b :: m, x :: l => (if b then x else none) :: hv_mask m l
  | _, _ => []
def hv_noL : Option hv_V → Prop
  | some (.inr (.inl _)) => False
  | _ => True
/-- no long lies just ahead of this place -/
def hv_fr : hv_L → Nat → Prop
  | _, 0 => True
  | l, n + 1 => hv_noL (hv_get l n)
def hv_oks (st : List hv_V) : Prop := ∀ v ∈ st, hv_ok v
def hv_okl (lo : hv_L) : Prop := ∀ (i : Nat) (v : hv_V), hv_get lo i = some v → hv_ok v
def hv_has (ls : Array Slot) (nL : Nat) (ρ : Nat → Nat) (lo : hv_L) : Prop := ls.size = nL ∧ lv_wf ls ∧ ∀ (i : Nat) (v : hv_V), hv_get lo i = some v → ls[i]? = some (.val (hv_t ρ v))
theorem hv_oks_cons {v : hv_V} {st : List hv_V} : hv_oks (v :: st) ↔ hv_ok v ∧ hv_oks st := by
  unfold hv_oks
  exact List.forall_mem_cons
theorem hv_get_lt {l : hv_L} : ∀ {i : Nat} {v : hv_V}, hv_get l i = some v → i < l.length := by
  induction l with
  | nil => intro i v h; cases h
  | cons x l ih =>
    intro i v h
    cases i with
    | zero => simp
    | succ n => simp only [hv_get] at h; have := ih h; simp; omega
theorem hv_get_set {l : hv_L} : ∀ {i j : Nat} {v w : hv_V}, hv_get (hv_set l i v) j = some w → (j = i ∧ w = v) ∨ (j ≠ i ∧ hv_get l j = some w) := by
  induction l with
  | nil => intro i j v w h; cases h
  | cons x l ih =>
    intro i j v w h
    cases i with
    | zero =>
      cases j with
      | zero => simp only [hv_set, hv_get, Option.some.injEq] at h; exact Or.inl ⟨rfl, h.symm⟩
      | succ j => exact Or.inr ⟨by omega, h⟩
    | succ i =>
      cases j with
      | zero => exact Or.inr ⟨by omega, h⟩
      | succ j =>
        simp only [hv_set, hv_get] at h
        rcases ih h with ⟨a, b⟩ | ⟨a, b⟩
        · exact Or.inl ⟨by omega, b⟩
        · exact Or.inr ⟨by omega, b⟩
theorem hv_get_set2 {l : hv_L} : ∀ {i j : Nat} {v w : hv_V}, hv_get (hv_set2 l i v) j = some w → (j = i ∧ w = v) ∨ (j ≠ i ∧ j ≠ i + 1 ∧ hv_get l j = some w) ∨ (l.length ≤ i + 1 ∧ hv_get l j = some w) := by
  induction l with
  | nil => intro i j v w h; cases h
  | cons x l ih =>
    cases l with
    | nil =>
      intro i j v w h
      exact Or.inr (Or.inr ⟨by simp, h⟩)
    | cons y l =>
      intro i j v w h
      cases i with
      | zero =>
        cases j with
        | zero => simp only [hv_set2, hv_get, Option.some.injEq] at h; exact Or.inl ⟨rfl, h.symm⟩
        | succ j =>
          cases j with
          | zero => simp only [hv_set2, hv_get] at h; cases h
          | succ j => exact Or.inr (Or.inl ⟨by omega, by omega, h⟩)
      | succ i =>
        cases j with
        | zero => exact Or.inr (Or.inl ⟨by omega, by omega, h⟩)
        | succ j =>
          simp only [hv_set2, hv_get] at h
          rcases ih h with ⟨a, b⟩ | ⟨a, b, c⟩ | ⟨a, b⟩
          · exact Or.inl ⟨by omega, b⟩
          · exact Or.inr (Or.inl ⟨by omega, by omega, c⟩)
          · exact Or.inr (Or.inr ⟨by simp at a ⊢; omega, b⟩)
theorem hv_get_mask : ∀ {m : List Bool} {l : hv_L} {i : Nat} {v : hv_V}, hv_get (hv_mask m l) i = some v → hv_get l i = some v := by
  intro m
  induction m with
  | nil => intro l i v h; cases l <;> cases h
  | cons b m ih =>
    intro l i v h
    cases l with
    | nil => cases h
    | cons x l =>
      cases i with
      | zero =>
        simp only [hv_mask, hv_get] at h ⊢
        cases b
        · cases h
        · exact h
      | succ i =>
        simp only [hv_mask, hv_get] at h ⊢
        exact ih h
theorem hv_has_mask {ls : Array Slot} {nL : Nat} {ρ : Nat → Nat} {lo : hv_L} {m : List Bool} (h : hv_has ls nL ρ lo) : hv_has ls nL ρ (hv_mask m lo) := ⟨h.1, h.2.1, fun i v hv => h.2.2 i v (hv_get_mask hv)⟩
theorem hv_okl_mask {lo : hv_L} {m : List Bool} (h : hv_okl lo) : hv_okl (hv_mask m lo) := fun i v hv => h i v (hv_get_mask hv)
theorem hv_okl_set {lo : hv_L} {i : Nat} {v : hv_V} (h : hv_okl lo) (hv : hv_ok v) : hv_okl (hv_set lo i v) := fun j w hw => by
  rcases hv_get_set hw with ⟨-, rfl⟩ | ⟨-, h2⟩
  · exact hv
  · exact h j w h2
theorem hv_okl_set2 {lo : hv_L} {i : Nat} {v : hv_V} (h : hv_okl lo) (hv : hv_ok v) : hv_okl (hv_set2 lo i v) := fun j w hw => by
  rcases hv_get_set2 hw with ⟨-, rfl⟩ | ⟨-, -, h2⟩ | ⟨-, h2⟩
  · exact hv
  · exact h j w h2
  · exact h j w h2
/-- the kit's list of the locals -/
def hv_toL (ρ : Nat → Nat) (lo : hv_L) : List (Nat × Value) := (List.range lo.length).filterMap (fun i => (hv_get lo i).map (fun v => (i, hv_t ρ v)))
theorem hv_toL_mem {ρ : Nat → Nat} {lo : hv_L} {q : Nat × Value} : q ∈ hv_toL ρ lo ↔ ∃ v, hv_get lo q.1 = some v ∧ q.2 = hv_t ρ v := by
  unfold hv_toL
  rw [List.mem_filterMap]
  constructor
  · rintro ⟨i, -, h⟩
    cases hg : hv_get lo i with
    | none => rw [hg] at h; cases h
    | some v =>
      rw [hg] at h
      simp only [Option.map_some, Option.some.injEq] at h
      subst h
      exact ⟨v, hg, rfl⟩
  · rintro ⟨v, h1, h2⟩
    refine ⟨q.1, List.mem_range.mpr (hv_get_lt h1), ?_⟩
    rw [h1]
    simp [← h2]
theorem hv_has_kit {ls : Array Slot} {nL : Nat} {ρ : Nat → Nat} {lo : hv_L} (h : hv_has ls nL ρ lo) : lv_has ls nL (hv_toL ρ lo) := ⟨h.1, h.2.1, fun q hq => by
  obtain ⟨v, h1, h2⟩ := hv_toL_mem.mp hq
  rw [h2]
  exact h.2.2 q.1 v h1⟩
theorem hv_noL_cat {ρ : Nat → Nat} {lo : hv_L} {i j : Nat} {v : hv_V} (hf : hv_fr lo i) (hj : j + 1 = i) (hv : hv_get lo j = some v) : (hv_t ρ v).category ≠ 2 := by
  subst hj
  simp only [hv_fr, hv] at hf
  rcases v with z | z | a
  · intro h; cases h
  · exact absurd hf (by simp [hv_noL])
  · intro h; cases h
theorem hv_has_set {ls' : Array Slot} {nL : Nat} {ρ : Nat → Nat} {lo : hv_L} {i : Nat} {v : hv_V} (hf : hv_fr lo i) (h : lv_has ls' nL ((i, hv_t ρ v) :: (hv_toL ρ lo).filter (fun q => !(q.1 == i) && !(q.1 + 1 == i && q.2.category == 2)))) : hv_has ls' nL ρ (hv_set lo i v) := by
  refine ⟨h.1, h.2.1, fun j w hw => ?_⟩
  rcases hv_get_set hw with ⟨rfl, rfl⟩ | ⟨h1, h2⟩
  · exact h.2.2 (j, hv_t ρ w) List.mem_cons_self
  · refine h.2.2 (j, hv_t ρ w) (List.mem_cons_of_mem _ (List.mem_filter.mpr ⟨hv_toL_mem.mpr ⟨w, h2, rfl⟩, ?_⟩))
    by_cases hj : j + 1 = i
    · simp [h1, hv_noL_cat (ρ := ρ) hf hj h2]
    · simp [h1, hj]
theorem hv_has_set2 {ls' : Array Slot} {nL : Nat} {ρ : Nat → Nat} {lo : hv_L} {i : Nat} {v : hv_V} (hi : i + 1 < lo.length) (hf : hv_fr lo i) (h : lv_has ls' nL ((i, hv_t ρ v) :: (hv_toL ρ lo).filter (fun q => !(q.1 == i) && (!(q.1 == i + 1) && !(q.1 + 1 == i && q.2.category == 2))))) : hv_has ls' nL ρ (hv_set2 lo i v) := by
  refine ⟨h.1, h.2.1, fun j w hw => ?_⟩
  rcases hv_get_set2 hw with ⟨rfl, rfl⟩ | ⟨h1, h3, h2⟩ | ⟨h1, -⟩
  · exact h.2.2 (j, hv_t ρ w) List.mem_cons_self
  · refine h.2.2 (j, hv_t ρ w) (List.mem_cons_of_mem _ (List.mem_filter.mpr ⟨hv_toL_mem.mpr ⟨w, h2, rfl⟩, ?_⟩))
    by_cases hj : j + 1 = i
    · simp [h1, h3, hv_noL_cat (ρ := ρ) hf hj h2]
    · simp [h1, h3, hj]
  · omega
/-- the machine goes on from here, whatever the heap, if the picture holds -/
def hw_C {σ : Type} (p : Program) (l : Launch) (e : Env) (R : Room) (s : State) (m : MethodId) (args : Array Value) (below : List Frame) (meth : Method) (c : Code) (Q : State → Prop) (nL : Nat) (ρ : Nat → Nat) (Pic : σ → Heap → List Loc → Nat → Nat → Prop) (pc : Nat) : hv_K σ := fun lo st x =>
  hv_oks st → hv_okl lo → ∀ (H : Heap) (locs : List Loc) (ce sl : Nat) (ls : Array Slot), Pic x H locs ce sl → hv_has ls nL ρ lo → W p l e R s m args below meth c H locs ce sl Q (F0 m pc ls (st.map (hv_t ρ)))
/-- a command K is carried out by the machine from pc on -/
def hw_S {σ : Type} (p : Program) (l : Launch) (e : Env) (R : Room) (s : State) (m : MethodId) (args : Array Value) (below : List Frame) (meth : Method) (c : Code) (Q : State → Prop) (nL : Nat) (ρ : Nat → Nat) (Pic : σ → Heap → List Loc → Nat → Nat → Prop) (K : hv_K σ) (pc : Nat) : Prop :=
  ∀ lo st x, K lo st x → hw_C p l e R s m args below meth c Q nL ρ Pic pc lo st x
/-- commands of the stack, the locals and of numbers -/
def hc_iconst {σ : Type} (z : Int) (K : hv_K σ) : hv_K σ := fun lo st x => K lo (.inl z :: st) x
def hc_lconst {σ : Type} (z : Int) (K : hv_K σ) : hv_K σ := fun lo st x => K lo (.inr (.inl z) :: st) x
def hc_iload {σ : Type} (n : Nat) (K : hv_K σ) : hv_K σ := fun lo st x => match hv_get lo n with
  | some (.inl z) => K lo (.inl z :: st) x
  | _ => False
def hc_lload {σ : Type} (n : Nat) (K : hv_K σ) : hv_K σ := fun lo st x => match hv_get lo n with
  | some (.inr (.inl z)) => K lo (.inr (.inl z) :: st) x
  | _ => False
def hc_aload {σ : Type} (n : Nat) (K : hv_K σ) : hv_K σ := fun lo st x => match hv_get lo n with
  | some (.inr (.inr a)) => K lo (.inr (.inr a) :: st) x
  | _ => False
def hc_istore {σ : Type} (n : Nat) (K : hv_K σ) : hv_K σ := fun lo st x => match st with
  | .inl z :: t => hv_fr lo n ∧ K (hv_set lo n (.inl z)) t x
  | _ => False
def hc_astore {σ : Type} (n : Nat) (K : hv_K σ) : hv_K σ := fun lo st x => match st with
  | .inr (.inr a) :: t => hv_fr lo n ∧ K (hv_set lo n (.inr (.inr a))) t x
  | _ => False
def hc_lstore {σ : Type} (n : Nat) (K : hv_K σ) : hv_K σ := fun lo st x => match st with
  | .inr (.inl z) :: t => (hv_fr lo n ∧ n + 1 < lo.length) ∧ K (hv_set2 lo n (.inr (.inl z))) t x
  | _ => False
def hc_iinc {σ : Type} (n : Nat) (k : Int) (K : hv_K σ) : hv_K σ := fun lo st x => match hv_get lo n with
  | some (.inl z) => hv_fr lo n ∧ hv_I (z + k) ∧ K (hv_set lo n (.inl (z + k))) st x
  | _ => False
def hc_dup {σ : Type} (K : hv_K σ) : hv_K σ := fun lo st x => match st with
  | .inr (.inr a) :: t => K lo (.inr (.inr a) :: .inr (.inr a) :: t) x
  | .inl a :: t => K lo (.inl a :: .inl a :: t) x
  | _ => False
def hc_dup2 {σ : Type} (K : hv_K σ) : hv_K σ := fun lo st x => match st with
  | .inl i :: .inr (.inr a) :: t => K lo (.inl i :: .inr (.inr a) :: .inl i :: .inr (.inr a) :: t) x
  | _ => False
def hc_pop {σ : Type} (K : hv_K σ) : hv_K σ := fun lo st x => match st with
  | .inl _ :: t => K lo t x
  | .inr (.inr _) :: t => K lo t x
  | _ => False
def hc_iadd {σ : Type} (K : hv_K σ) : hv_K σ := fun lo st x => match st with
  | .inl b :: .inl a :: t => hv_I (a + b) ∧ K lo (.inl (a + b) :: t) x
  | _ => False
def hc_isub {σ : Type} (K : hv_K σ) : hv_K σ := fun lo st x => match st with
  | .inl b :: .inl a :: t => hv_I (a - b) ∧ K lo (.inl (a - b) :: t) x
  | _ => False
def hc_imul {σ : Type} (K : hv_K σ) : hv_K σ := fun lo st x => match st with
  | .inl b :: .inl a :: t => hv_I (a * b) ∧ K lo (.inl (a * b) :: t) x
  | _ => False
/-- with the wrap-around of an int -/
def hv_wrap (z : Int) : Int := (Int32.ofInt z).toInt
def hc_iaddw {σ : Type} (K : hv_K σ) : hv_K σ := fun lo st x => match st with
  | .inl b :: .inl a :: t => K lo (.inl (hv_wrap (a + b)) :: t) x
  | _ => False
def hc_isubw {σ : Type} (K : hv_K σ) : hv_K σ := fun lo st x => match st with
  | .inl b :: .inl a :: t => K lo (.inl (hv_wrap (a - b)) :: t) x
  | _ => False
def hc_imulw {σ : Type} (K : hv_K σ) : hv_K σ := fun lo st x => match st with
  | .inl b :: .inl a :: t => K lo (.inl (hv_wrap (a * b)) :: t) x
  | _ => False
def hc_inegw {σ : Type} (K : hv_K σ) : hv_K σ := fun lo st x => match st with
  | .inl a :: t => K lo (.inl (hv_wrap (-a)) :: t) x
  | _ => False
def hc_idiv {σ : Type} (K : hv_K σ) : hv_K σ := fun lo st x => match st with
  | .inl b :: .inl a :: t => (b ≠ 0 ∧ b ≠ -1) ∧ K lo (.inl (Int.tdiv a b) :: t) x
  | _ => False
def hc_irem {σ : Type} (K : hv_K σ) : hv_K σ := fun lo st x => match st with
  | .inl b :: .inl a :: t => (b ≠ 0 ∧ b ≠ -1) ∧ K lo (.inl (Int.tmod a b) :: t) x
  | _ => False
def hc_ineg {σ : Type} (K : hv_K σ) : hv_K σ := fun lo st x => match st with
  | .inl a :: t => hv_I (-a) ∧ K lo (.inl (-a) :: t) x
  | _ => False
def hv_and (a b : Int) : Int := (Int32.ofInt a &&& Int32.ofInt b).toInt
def hv_or (a b : Int) : Int := (Int32.ofInt a ||| Int32.ofInt b).toInt
def hv_xor (a b : Int) : Int := (Int32.ofInt a ^^^ Int32.ofInt b).toInt
def hv_shl (a b : Int) : Int := (Int32.ofInt a <<< (Int32.ofInt b &&& 31)).toInt
def hv_shr (a b : Int) : Int := (Int32.ofInt a >>> (Int32.ofInt b &&& 31)).toInt
def hv_ushr (a b : Int) : Int := ((Int32.ofInt a).toUInt32 >>> ((Int32.ofInt b).toUInt32 &&& Int32.toUInt32 31)).toInt32.toInt
def hv_i2b (a : Int) : Int := (Int32.ofInt a).toInt8.toInt32.toInt
def hv_i2s (a : Int) : Int := (Int32.ofInt a).toInt16.toInt32.toInt
def hv_i2c (a : Int) : Int := ((Int32.ofInt a).toUInt32 % 65536).toInt32.toInt
def hv_l2i (a : Int) : Int := (Int64.ofInt a).toInt32.toInt
def hv_land (a b : Int) : Int := (Int64.ofInt a &&& Int64.ofInt b).toInt
def hv_lor (a b : Int) : Int := (Int64.ofInt a ||| Int64.ofInt b).toInt
def hv_lshl (a b : Int) : Int := (Int64.ofInt a <<< ((Int32.ofInt b).toInt64 &&& 63)).toInt
def hv_lshr (a b : Int) : Int := (Int64.ofInt a >>> ((Int32.ofInt b).toInt64 &&& 63)).toInt
def hc_b2 {σ : Type} (f : Int → Int → Int) (K : hv_K σ) : hv_K σ := fun lo st x => match st with
  | .inl b :: .inl a :: t => K lo (.inl (f a b) :: t) x
  | _ => False
def hc_b1 {σ : Type} (f : Int → Int) (K : hv_K σ) : hv_K σ := fun lo st x => match st with
  | .inl a :: t => K lo (.inl (f a) :: t) x
  | _ => False
def hc_i2l {σ : Type} (K : hv_K σ) : hv_K σ := fun lo st x => match st with
  | .inl a :: t => K lo (.inr (.inl a) :: t) x
  | _ => False
def hc_l2i {σ : Type} (K : hv_K σ) : hv_K σ := fun lo st x => match st with
  | .inr (.inl a) :: t => K lo (.inl (hv_l2i a) :: t) x
  | _ => False
def hc_ladd {σ : Type} (K : hv_K σ) : hv_K σ := fun lo st x => match st with
  | .inr (.inl b) :: .inr (.inl a) :: t => hv_J (a + b) ∧ K lo (.inr (.inl (a + b)) :: t) x
  | _ => False
def hc_l2 {σ : Type} (f : Int → Int → Int) (K : hv_K σ) : hv_K σ := fun lo st x => match st with
  | .inr (.inl b) :: .inr (.inl a) :: t => K lo (.inr (.inl (f a b)) :: t) x
  | _ => False
def hc_lsh {σ : Type} (f : Int → Int → Int) (K : hv_K σ) : hv_K σ := fun lo st x => match st with
  | .inl b :: .inr (.inl a) :: t => K lo (.inr (.inl (f a b)) :: t) x
  | _ => False
def hv_cmp (a b : Int) : Int := if a < b then -1 else if a = b then 0 else 1
def hc_lcmp {σ : Type} (K : hv_K σ) : hv_K σ := fun lo st x => match st with
  | .inr (.inl b) :: .inr (.inl a) :: t => K lo (.inl (hv_cmp a b) :: t) x
  | _ => False
/-- branches: where the test holds, else -/
def hc_if {σ : Type} (P : Int → Prop) (Kt Kf : hv_K σ) : hv_K σ := fun lo st x => match st with
  | .inl a :: t => (P a → Kt lo t x) ∧ (¬ P a → Kf lo t x)
  | _ => False
def hc_icmp {σ : Type} (P : Int → Int → Prop) (Kt Kf : hv_K σ) : hv_K σ := fun lo st x => match st with
  | .inl b :: .inl a :: t => (P a b → Kt lo t x) ∧ (¬ P a b → Kf lo t x)
  | _ => False
def hc_jump {σ : Type} (mk : List Bool) (K : hv_K σ) : hv_K σ := fun lo st x => K (hv_mask mk lo) st x
