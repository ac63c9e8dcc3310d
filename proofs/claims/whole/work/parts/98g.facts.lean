/-! the static facts at the law's entry -/
def hh_ix (q : Nat) : Nat := hh_cells.findIdx (fun c => c.1 == q)
theorem hh_ix_ok : (List.range 287).all (fun i => match hh_cells[i]? with
  | some c => decide (c.1 < 9295 ∧ hh_ix c.1 = i)
  | none => true) = true := by decide +kernel
theorem hh_ix_at {i : Nat} {c : Nat × Nat × Nat × Nat} (h : hh_cells[i]? = some c) : c.1 < 9295 ∧ hh_ix c.1 = i := by
  have hl : i < 287 := Nat.lt_of_lt_of_eq (List.getElem?_eq_some_iff.mp h).1 (by decide +kernel)
  have h2 := List.all_eq_true.mp hh_ix_ok i (List.mem_range.mpr hl)
  rw [h] at h2
  exact of_decide_eq_true h2
theorem hh_tag_ok : hh_cells.all (fun c => decide (c.2.1 = 1 → hh_tag c.1 = c.2.2.1 ∧ c.2.2.1 < 8)) = true := by decide +kernel
/-- all names of places, out of what the start gives -/
def sx_ρ (h0 b : Nat) (st adK adV : Nat → Nat) : Nat → Nat := fun q => if q < 9295 then h0 + hh_ix q else if q = 900000 then b else if q < 30000 then st ((q - 20000) / 100) else if (q - 40000) % 10 = 0 then adK ((q - 40000) / 10) else adV ((q - 40000) / 10)
section SX
variable {s : State} {args : Array Value}
theorem sx_D (hts : ∀ w ∈ hh_ws, w.before args s = true) : ∀ ci : Nat, ∃ (cC : ClassId) (iS : Nat → Nat), ∀ q : vw_C, vwCl[ci]? = some q → u_Kn s q.1 q.2.1 q.2.2 cC iS := by
  have key : ∀ {ci : Nat} {C : String} {F : u_T} {N : Nat} {ty : Nat → FieldType}, hh_CF ci C F N ty → (Cond.instantiable C N) ∈ hh_ws → ∃ (cC : ClassId) (iS : Nat → Nat), ∀ q : vw_C, vwCl[ci]? = some q → u_Kn s q.1 q.2.1 q.2.2 cC iS := by
    intro ci C F N ty hcf hi
    obtain ⟨cC, iS, h⟩ := u_known hts hcf.2.1 (hts _ hi)
    refine ⟨cC, iS, fun q hq => ?_⟩
    rw [hcf.1] at hq
    cases hq
    exact h
  intro ci
  match ci with
  | 0 => exact key hf_X0 wq_191
  | 1 => exact key hf_X1 wq_229
  | 2 => exact key hf_X2 wq_215
  | 3 => exact key hf_X3 wq_65
  | 4 => exact key hf_X4 wq_180
  | 5 => exact key hf_X5 wq_30
  | 6 => exact key hf_X6 wq_263
  | 7 => exact key hf_X7 wq_72
  | 8 => exact key hf_X8 wq_129
  | 9 => exact key hf_X9 wr_20
  | 10 => exact key hf_X10 wr_889
  | ci + 11 => exact ⟨0, fun _ => 0, fun q hq => by cases hq⟩
theorem sx_T (hts : ∀ w ∈ lw_tbl, w.before args s = true) : ∀ tg : Nat, ∃ cA : ClassId, tg < 8 → ArrOfT s cA (hh_ty tg) ∧ va_RA s cA (hh_ty tg) := by
  have kobj : ∀ {C : String}, (Cond.arrayOver (.object C)) ∈ lw_tbl → ∃ cA : ClassId, ArrOfT s cA (.object C) ∧ va_RA s cA (.object C) := by
    intro C h
    obtain ⟨comp, c, k, h1, h2, h3, h4, h5⟩ := Cond.arrayOver_spec (hts _ h)
    exact ⟨c, fun n z => ⟨fun k h => (by cases h), k, h3, comp, h4⟩, k, comp, h3, h4, h1, h5⟩
  intro tg
  match tg with
  | 0 =>
    obtain ⟨cA, kA, cc, h1, h2, h3⟩ := Cond.arrayClass_spec (hts _ sw_ac_int)
    exact ⟨cA, fun _ => ⟨fun n z => ⟨fun k h => (by cases h), kA, h2, cc, h3⟩, h1⟩⟩
  | 1 =>
    obtain ⟨cA, kA, cc, h1, h2, h3⟩ := Cond.arrayClass_spec (hts _ sw_ac_byte)
    exact ⟨cA, fun _ => ⟨fun n z => ⟨fun k h => (by cases h), kA, h2, cc, h3⟩, h1⟩⟩
  | 2 =>
    obtain ⟨cA, kA, cc, h1, h2, h3⟩ := Cond.arrayClass_spec (hts _ sw_ac_boolean)
    exact ⟨cA, fun _ => ⟨fun n z => ⟨fun k h => (by cases h), kA, h2, cc, h3⟩, h1⟩⟩
  | 3 => obtain ⟨cA, h⟩ := kobj sw_aoSheet; exact ⟨cA, fun _ => h⟩
  | 4 => obtain ⟨cA, h⟩ := kobj sw_aoMatch; exact ⟨cA, fun _ => h⟩
  | 5 => obtain ⟨cA, h⟩ := kobj sw_aoSide; exact ⟨cA, fun _ => h⟩
  | 6 => obtain ⟨cA, h⟩ := kobj sw_aoTug; exact ⟨cA, fun _ => h⟩
  | 7 =>
    obtain ⟨comp, cA, kA, a1, -, a2, a3, a4⟩ := arrayOverA_spec (hts _ sw_aoI)
    exact ⟨cA, fun _ => ⟨fun n z => ⟨fun k h => (by cases h), kA, a2, comp, a3⟩, a4⟩⟩
  | tg + 8 => exact ⟨0, fun h => absurd h (by omega)⟩
theorem sx_Y (hts : ∀ w ∈ lw_tbl, w.before args s = true) : hz_Y s := ⟨⟨va_AO.of (A := args) (by have := hts _ sw_aoSheet; exact this), va_AO.of (A := args) (hts _ sw_aoMatch), va_AO.of (A := args) (hts _ sw_aoSide), va_AO.of (A := args) (hts _ sw_aoTug)⟩, hz_M.of (hts _ sw_aoI) (hts _ sw_ac_int)⟩
theorem sx_st {A : Nat → Prop} (hts : ∀ w ∈ lw_tbl, w.before args s = true) (hg : (Jvm.Cond.and given_1 narrow_1).before args s = true) (hA : ∀ a : Nat, a < s.heap.size → ¬ A a) : ∀ i : Nat, ∃ t : Nat, i < 4 → va_Z (s_st i).1 (s_st i).2.1 "[I" (.ref t) A s s.heap ∧ va_T .int t (s_st i).2.2.2.length (fun j => .int (Int32.ofInt ((s_st i).2.2.2.getD j 0))) A s s.heap := by
  intro i
  by_cases hi : i < 4
  · obtain ⟨t, h1, h2⟩ := va_Tof (args := args) (s := s) (tm := s_sm i) (ty := .int) (N := (s_st i).2.2.2.length) (f := fun j => .int (Int32.ofInt ((s_st i).2.2.2.getD j 0))) (A := A) (by match i with | 0 => decide | 1 => decide | 2 => decide | 3 => decide | i + 4 => omega) (s_ok hg _ (sf_sa i hi)) (va_eqt (s_ok hg _ (sf_sl i hi))) (fun j hj => va_eqt (s_ok hg _ (sf_se i hi j hj))) hA
    exact ⟨t, fun _ => ⟨va_Zref (args := args) (hts _ (List.mem_of_getElem? (sw_pl i hi))) (hts _ (List.mem_of_getElem? (sw_pi i hi))) h1 hA, h2⟩⟩
  · exact ⟨0, fun h => absurd h hi⟩
theorem sx_str {A : Nat → Prop} (hg : (Jvm.Cond.and given_1 narrow_1).before args s = true) (hA : ∀ a : Nat, a < s.heap.size → ¬ A a) : ∃ adK adV : Nat → Nat, vk_S 15 hh_strL hh_strC adK adV A s s.heap ∧ ∀ i : Nat, i < 15 → (s_tm i).eval args s none [] s = some (.ref (adK i)) := by
  refine vk_Sof (args := args) (s := s) (N := 15) (tm := s_tm) (len := hh_strL) (byt := hh_strC) (A := A) (fun i hi => ?_) (fun i hi => s_ok hg _ (sf_ex i hi)) (fun i hi => s_ok hg _ (sf_co i hi)) (fun i hi => s_ok hg _ (sf_ar i hi)) (fun i hi => s_ok hg _ (sf_le i hi)) (fun i hi j hj => s_ok hg _ (sf_el i hi j hj)) (fun i j hi hj hij => ?_) hA
  · have h := hh_strL_eq (k := i) hi
    rw [h.1]
    exact Nat.lt_trans h.2.1 (by decide)
  · rcases Nat.lt_or_gt_of_ne hij with h | h
    · exact Or.inl (s_ok hg _ (sf_ne i hi j hj h))
    · exact Or.inr (s_ok hg _ (sf_ne j hj i hi h))
end SX
theorem sx_all {s : State} {args : Array Value} (hts : ∀ w ∈ lw_tbl, w.before args s = true) (hg : (Jvm.Cond.and given_1 narrow_1).before args s = true) (b : Nat) : ∃ (D : va_G) (ρ : Nat → Nat) (kA : Nat → ClassId), hx_K D ρ kA (hz_A s.heap.size) s ∧ hz_R ρ s.heap.size ∧ ρ 900000 = b := by
  have hA : ∀ a : Nat, a < s.heap.size → ¬ hz_A s.heap.size a := fun a h => Nat.not_le.mpr h
  have hws : ∀ w ∈ hh_ws, w.before args s = true := fun w hw => hts w (List.mem_filter.mp hw).1
  have hD := sx_D hws
  have hT := sx_T hts
  have hS := sx_st hts hg hA
  obtain ⟨adK, adV, hv1, hv2⟩ := sx_str hg hA
  generalize hst : (fun i => Classical.choose (hS i)) = st
  have hS2 : ∀ i, i < 4 → va_Z (s_st i).1 (s_st i).2.1 "[I" (.ref (st i)) (hz_A s.heap.size) s s.heap ∧ va_T .int (st i) (s_st i).2.2.2.length (fun j => .int (Int32.ofInt ((s_st i).2.2.2.getD j 0))) (hz_A s.heap.size) s s.heap := by
    intro i hi
    rw [← hst]
    exact Classical.choose_spec (hS i) hi
  have hT2 : ∀ tg, tg < 8 → ArrOfT s (Classical.choose (hT tg)) (hh_ty tg) ∧ va_RA s (Classical.choose (hT tg)) (hh_ty tg) := fun tg h => Classical.choose_spec (hT tg) h
  generalize hkT : (fun tg => Classical.choose (hT tg)) = kT
  have hT3 : ∀ tg, tg < 8 → ArrOfT s (kT tg) (hh_ty tg) ∧ va_RA s (kT tg) (hh_ty tg) := by
    intro tg h
    rw [← hkT]
    exact hT2 tg h
  have r1 : ∀ q, q < 9295 → sx_ρ s.heap.size b st adK adV q = s.heap.size + hh_ix q := fun q h => if_pos h
  have r2 : sx_ρ s.heap.size b st adK adV 900000 = b := rfl
  have r3 : ∀ i, i < 4 → sx_ρ s.heap.size b st adK adV (20000 + 100 * i) = st i := by
    intro i hi
    unfold sx_ρ
    rw [if_neg (by omega), if_neg (by omega), if_pos (by omega)]
    congr 1
    omega
  have r4 : ∀ k, k < 15 → sx_ρ s.heap.size b st adK adV (hh_sid k) = adK k := by
    intro k hk
    unfold sx_ρ hh_sid
    rw [if_neg (by omega), if_neg (by omega), if_neg (by omega), if_pos (by omega)]
    congr 1
    omega
  have r5 : ∀ k, k < 15 → sx_ρ s.heap.size b st adK adV (hh_sid k + 5) = adV k := by
    intro k hk
    unfold sx_ρ hh_sid
    rw [if_neg (by omega), if_neg (by omega), if_neg (by omega), if_neg (by omega)]
    congr 1
    omega
  generalize sx_ρ s.heap.size b st adK adV = ρ at r1 r2 r3 r4 r5
  refine ⟨(fun ci => Classical.choose (hD ci), fun ci => Classical.choose (Classical.choose_spec (hD ci))), ρ, fun a => kT (hh_tag a), ⟨⟨fun c q hq => Classical.choose_spec (Classical.choose_spec (hD c)) q hq, fun k q hk => ?_⟩, fun w hw => ?_, fun q hq => ?_, ?_, ?_, ?_, fun k hk => ?_⟩, fun i c hc => ?_, r2⟩
  · unfold hh_tys hh_arrs at hk
    rw [List.getElem?_map] at hk
    cases hc : (hh_cells.filter (fun c => c.2.1 == 1))[k]? with
    | none => rw [hc] at hk; cases hk
    | some c =>
      rw [hc] at hk
      cases hk
      have h1 := List.mem_filter.mp (List.mem_of_getElem? hc)
      have h2 := of_decide_eq_true (List.all_eq_true.mp hh_tag_ok c h1.1) (by simpa using h1.2)
      show ArrOfT s (kT (hh_tag c.1)) (hh_ty c.2.2.1) ∧ va_RA s (kT (hh_tag c.1)) (hh_ty c.2.2.1)
      rw [h2.1]
      exact hT3 _ h2.2
  · have h1 := List.mem_filter.mp hw
    have h2 := hts w h1.1
    have h3 := h1.2
    cases w <;> first | exact va_Nw.of rfl h2 | cases h3
  · obtain ⟨i, hi⟩ := List.getElem?_of_mem hq
    have hl : i < 4 := (List.getElem?_eq_some_iff.mp hi).1
    have e1 : s_st i = q := by
      unfold s_st
      rw [List.getD_eq_getElem?_getD, hi]
      rfl
    have e2 : q.2.2.1 = 20000 + 100 * i := by
      rw [← e1]
      match i with
      | 0 => rfl
      | 1 => rfl
      | 2 => rfl
      | 3 => rfl
      | i + 4 => omega
    have h := hS2 i hl
    rw [e1] at h
    rw [e2, r3 i hl]
    exact h
  · exact va_Zof (args := args) (hts _ sw_cs.1) (hts _ sw_cs.2) (va_eqt (s_ok hg _ sf_cs)) hA
  · exact va_Zqof (args := args) (hts _ sw_si.1) (hts _ sw_si.2) (s_ok hg _ sf_si) hA
  · refine ⟨fun i hi => ?_, fun i j hi hj h => hv1.2 i j hi hj (by rw [← r4 i hi, ← r4 j hj]; exact h)⟩
    have h := hv1.1 i hi
    show va_O "java/lang/String" (ρ (hh_sid i)) _ _ _ ∧ va_OF "java/lang/String" "coder" "B" (.int 0) (ρ (hh_sid i)) _ _ _ ∧ va_OF "java/lang/String" "value" "[B" (.ref (ρ (hh_sid i + 5))) (ρ (hh_sid i)) _ _ _ ∧ va_T .byte (ρ (hh_sid i + 5)) _ _ _ _ _
    rw [r4 i hi, r5 i hi]
    exact h
  · have h := hv2 k hk
    rw [r4 k hk]
    exact vk_R.of (A := args) (hts _ (List.mem_of_getElem? (sw_pr k hk))) h
  · obtain ⟨h1, h2⟩ := hh_ix_at hc
    rw [r1 _ h1, h2]
