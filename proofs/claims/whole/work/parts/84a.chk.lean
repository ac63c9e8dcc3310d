/-! the index test of the library: its third argument (a formatter) may be null or a reference -/
theorem ck_len {a b : Int32} {v : Value} (hv : v.category = 1) : (lg_sl [Value.int a, Value.int b, v]).length ≤ 3 := by
  have e : lg_sl [Value.int a, Value.int b, v] = lg_sl [Value.int a, Value.int b] ++ lg_sl [v] := by simp [lg_sl]
  have e2 : (lg_sl [v]).length = 1 := by simp [lg_sl, hv]
  rw [e, List.length_append, e2]
  exact Nat.le_refl _
theorem ck_met (l : Launch) {D : va_G} {ρ : Nat → Nat} {kA : Nat → ClassId} {x : hm} {i n : Int} {v : Value} (h0 : 0 ≤ i) (h1 : i < n) (hi : hv_I i) (hn : hv_I n) (hv : v.category = 1) : Met l m_J3_checkIndex_8e157.1 (hm_ws m_J3_checkIndex_8e157) (hm_rm 1) (va_Pc [.int (Int32.ofInt i), .int (Int32.ofInt n), v] (hm_W D ρ kA x)) (va_Qi (fun (_ : Int32) (u : hm) => u = x) (fun u t => hm_W D ρ kA u t) (hh_dom ρ)) 0 0 (hh_dom ρ) := by
  refine Met.ofW (cc := m_J3_checkIndex_8e157.2.1) (maxL := m_J3_checkIndex_8e157.2.2.1) (ret := m_J3_checkIndex_8e157.2.2.2) (by decide +kernel) rfl ?_
  intro p e s m args below meth c s₁ B hml hv2
  obtain ⟨rfl, hK, hP, hD, hI⟩ := hv2
  have hts : ∀ w ∈ hm_ws m_J3_checkIndex_8e157, w.before [Value.int (Int32.ofInt i), Value.int (Int32.ofInt n), v].toArray s = true := atoms_spec (ws := hm_ws m_J3_checkIndex_8e157) B.pre
  have hown : s.vm.findClass m_J3_checkIndex_8e157.1.cls = some m.cls := findClass_of_methodNamed B.named
  have X : hx_C p (headSpec (hm_ws m_J3_checkIndex_8e157) (hm_rm 1)).room s m [Value.int (Int32.ofInt i), Value.int (Int32.ofInt n), v].toArray meth c m_J3_checkIndex_8e157.1.cls m_J3_checkIndex_8e157.2.1 m_J3_checkIndex_8e157.2.2.1 1 D ρ kA (hh_dom ρ) 0 0 := ⟨B.exec, B.bytes, hml, hown, fun w hw => hts w (List.mem_cons_of_mem _ hw), ⟨Nat.le_refl _, Nat.le_refl _⟩, ⟨Nat.zero_le _, Nat.zero_le _⟩, hK, hD, B.notSynchronized⟩
  have hx := B.exec
  have hb := B.bytes
  have hr : meth.sig.returnType = some .int := B.returns
  have k16 := hs_iload_n (l := l) (e := e) (below := below) (ρ := ρ) (Pic := hp_P D ρ kA (hh_dom ρ) s.heap 0 0) hx hb dJ3_checkIndex_8e157_16 rfl (hs_ireturn (QQ := fun _ u => u = x) X hr dJ3_checkIndex_8e157_17)
  have k4 := hs_iload_n hx hb dJ3_checkIndex_8e157_4 rfl (hs_iload_n hx hb dJ3_checkIndex_8e157_5 rfl (hs_icmp_lt hx hb dJ3_checkIndex_8e157_6 (by decide) k16 hs_none))
  have k0 := hs_iload_n hx hb dJ3_checkIndex_8e157_0 rfl (hs_if_lt hx hb dJ3_checkIndex_8e157_1 (by decide) (hs_none (pc := 9)) k4)
  rw [lg_entry_eq]
  refine k0 [some (Vi i), some (Vi n), none] [] x ?_ (fun v hv => by cases hv) ?_ s.heap [] 0 0 _ ⟨hP, va_S.rf, hI, rfl, rfl⟩ ?_
  · exact ⟨fun e => absurd e (by omega), fun _ => ⟨fun _ => rfl, fun e => absurd h1 e⟩⟩
  · intro j w hw
    match j with
    | 0 => cases hw; exact hi
    | 1 => cases hw; exact hn
    | 2 => cases hw
    | j + 3 => cases hw
  · have he := lv_entry [Value.int (Int32.ofInt i), Value.int (Int32.ofInt n), v] (n := 3) (ck_len hv)
    refine ⟨he.1, he.2.1, fun j w hw => ?_⟩
    match j with
    | 0 => cases hw; exact he.2.2 (0, _) List.mem_cons_self
    | 1 => cases hw; exact he.2.2 (1, _) (List.mem_cons_of_mem _ List.mem_cons_self)
    | 2 => cases hw
    | j + 3 => cases hw
theorem sp_checkIndex (l : Launch) {i n : Int} (h0 : 0 ≤ i) (h1 : i < n) {x : hm} {Q : hm → Prop} (h : Q x) : hm_V l m_J0_checkIndex_df160 2 [Vi i, Vi n] x Q := by
  refine hm_of_void (M := m_J0_checkIndex_df160) rfl (by decide +kernel) (Nat.le_of_ble_eq_true rfl) (fun p e R s m args below meth c D ρ kA QF X hret => ?_)
  obtain ⟨hx, hb, hml, hown, hts, hroom, hcs, hK0, hD, hlk⟩ := id X
  obtain ⟨hK1, hnw, hst1, hcmp, hsio, hstr, hldc⟩ := id hK0
  refine hs_iload_n hx hb dJ0_checkIndex_df160_0 rfl (hs_iload_n hx hb dJ0_checkIndex_df160_1 rfl (hw_atA X)) _ _ _ ?_
  show hw_A X l e below QF 2 [some (Vi i), some (Vi n)] [Vi n, Vi i] x
  intro hst hlo H locs ce sl ls hP0 hl
  obtain ⟨hP, hS, hI, rfl, rfl⟩ := id hP0
  have hin := (hv_oks_cons.mp hst).1
  have hii := (hv_oks_cons.mp (hv_oks_cons.mp hst).2).1
  have key : ∀ v : Value, v.category = 1 → W p l e R s m args below meth c H locs 0 0 QF (F0 m 5 ls [v, .int (Int32.ofInt n), .int (Int32.ofInt i)]) := by
    intro v hv
    have hpre : ∀ U : State, U.heap = H → s.WarmedH U.vm → va_Pc [Value.int (Int32.ofInt i), .int (Int32.ofInt n), v] (hm_W D ρ kA x) [Value.int (Int32.ofInt i), .int (Int32.ofInt n), v].toArray U := fun U hU hW => ⟨rfl, hm_W_at X hP hS hI hU hW⟩
    have hM := ck_met l (D := D) (ρ := ρ) (kA := kA) (x := x) h0 h1 hii hin hv
    have hO := mo_J3_checkIndex_8e157
    have hR : (hm_rm 1).frames + 1 ≤ R.frames ∧ 8 + (m_J3_checkIndex_8e157.2.2.1 + 11) + (hm_rm 1).locals ≤ R.locals := ⟨hroom.1, by have := hroom.2; show 8 + (3 + 11) + 60 * 1 ≤ R.locals; omega⟩
    have hG : GoodIn hh_ws (hm_ws m_J3_checkIndex_8e157) := hh_goodIn (fun w hw => by rcases List.mem_cons.mp hw with rfl | hw; exact hO.1.2.2; exact hw)
    have hstk : (F0 m 5 ls [v, .int (Int32.ofInt n), .int (Int32.ofInt i)]).stack = [Value.int (Int32.ofInt i), .int (Int32.ofInt n), v].reverse ++ [] := rfl
    refine va_calli (va_runS (As := [Value.int (Int32.ofInt i), .int (Int32.ofInt n), v]) (rest := []) ⟨hx, hb, hml, hown, hts⟩ hM ⟨callB_of 3 hts hG rfl rfl rfl (hts _ hO.1.2.1) (hts _ wl_447) hO.2.1 hR, hts _ hO.1.1⟩ ⟨hm_blind, hpre⟩ rfl rfl hl.1 hstk (lv_room (by simp)) dJ0_checkIndex_df160_5 ⟨hcs.1, hcs.2⟩) hS (fun q _ h => h) (fun q h => h) (fun r u t H1 locs1 ht hvm hp hB hz1 hk1 hS1 => ?_)
    subst hp
    have hP1 : va_P D vwCl (hh_W ρ kA u) H1 := by rw [← ht]; exact hB.2.1
    refine lv_pop hx hb dJ0_checkIndex_df160_8 rfl ?_
    exact hret 9 dJ0_checkIndex_df160_9 _ [] u h (fun v hv => by cases hv) hlo H1 locs1 0 0 ls ⟨hP1, hS1, hB.2.2.2, rfl, rfl⟩ hl
  rcases hsio with hz | ⟨t, hz⟩
  · exact va_gets hx hb hz hS hown (hts _ wl_445) (fun _ h9 => h9) dJ0_checkIndex_df160_2 (key _ rfl)
  · exact va_gets hx hb hz hS hown (hts _ wl_445) (fun _ h9 => h9) dJ0_checkIndex_df160_2 (key _ rfl)
