/-! the law from its entry on -/
section HQP
variable {p : Program} {l : Launch} {e : Env} {R : Room} {s : State} {m : MethodId} {args : Array Value} {below : List Frame} {meth : Method} {c : Code} {Q : State → Prop} {nL d h0 n0 n1 : Nat} {ρ : Nat → Nat} {D : va_G} {kA : Nat → ClassId} {cc : ByteArray} {own : String} {pc : Nat} {K : hv_K hz_S}
theorem hq_callP (X : hz_C p R s m args meth c own cc nL d D ρ kA h0 n0 n1) {M : hm_M} {d2 a k0 k1 index : Nat} {ps : List (Nat × Int)} (w1 : Cond.instanceMethod M.1 ∈ hh_ws) (w2 : Cond.initialized M.1.cls ∈ hh_ws) (w3 : Cond.code M.1 M.2.1 M.2.2.1 M.2.2.2 ∈ hh_ws) (hr : M.2.2.2 = none) (hnm : M.1.name = "<init>") (hmh : M.1.cls ≠ "java/lang/invoke/MethodHandle" ∧ M.1.cls ≠ "java/lang/invoke/VarHandle" ∧ (parseMethodDescriptor M.1.desc).map (fun d => d.parameters.length) = some 0) (hL : M.2.2.1 ≤ 41) (w4 : Cond.methodLink own index M.1 ∈ hh_ws) (hd2 : d2 < d) (hd : decode cc pc = .ok (.invokespecial index, 3))
    (hK : hw_S p l e R s m args below meth c Q nL ρ (hz_P D ρ kA h0 n0 s.heap) K (pc + 3)) : hw_S p l e R s m args below meth c Q nL ρ (hz_P D ρ kA h0 n0 s.heap) (hk_call l M d2 a k0 k1 n1 ps K) pc := by
  obtain ⟨⟨hx, hb, hml, hown, hts, hroom, hcs, hK0, hDh, hlk⟩, ⟨hR, hY⟩, hh0, hn01⟩ := X
  intro lo st x h
  unfold hk_call at h
  split at h
  · rename_i a' t
    obtain ⟨⟨rfl, rfl, ⟨hk01, hk1⟩, hw⟩, hV, h3⟩ := h
    intro hst hlo H locs ce sl ls hP0 hl
    obtain ⟨⟨⟨hP, hsz, hle⟩, hS⟩, ⟨hI, hZ⟩, hce, hsl⟩ := hP0
    have f1 := hz_mono hk1
    have f2 := hz_mono hk01
    have f3 := hz_mono hn01
    have hM := hV D ρ kA h0 hR
    have hpre : ∀ U : State, U.heap = H → s.WarmedH U.vm → va_Pc [Value.ref (ρ a')] (hz_B D ρ kA h0 x.1 x.2) [Value.ref (ρ a')].toArray U := fun U hU hW => ⟨rfl, ⟨hK0.moved hW (fun q q1 q2 => by rw [hU]; exact hS.2.1 q q1 q2), hY.moved hW.alike⟩, ⟨by rw [hU]; exact hP, by rw [hU]; exact hsz, hle⟩, hI, hZ⟩
    have hRm : (hz_rm d2 x.1 k1).frames + 1 ≤ R.frames ∧ 8 + (M.2.2.1 + 11) + (hz_rm d2 x.1 k1).locals ≤ R.locals := ⟨Nat.le_trans hd2 hroom.1, by have := hroom.2; show 8 + (M.2.2.1 + 11) + 60 * d2 ≤ R.locals; omega⟩
    have e1 : hm_ws M = .code M.1 M.2.1 M.2.2.1 none :: hh_ws := by unfold hm_ws; rw [hr]
    have hG : GoodIn hh_ws (.code M.1 M.2.1 M.2.2.1 none :: hh_ws) := by
      rw [← e1]
      exact hh_goodIn (fun w hw => by rcases List.mem_cons.mp hw with rfl | hw; exact w3; exact hw)
    rw [e1] at hM
    refine va_callv (va_runI (b := ρ a') (As := []) (rest := t.map (hv_t ρ)) ⟨hx, hb, hml, hown, hts⟩ hM ⟨callB_of 0 hts hG rfl rfl rfl (hts _ w2) (hts _ w4) hmh hRm, hnm, hts _ w1⟩ ⟨hz_B.blind, hpre⟩ rfl rfl hl.1 rfl (lv_room (by rw [hv_w_eq]; exact hw)) hd ⟨by have := hcs.1; omega, by have := hcs.2; omega⟩) hS (fun q _ h => h) (fun q h => h) (fun u t1 H1 locs1 ht hvm hp hB hz1 hk2 hS1 => ?_)
    obtain ⟨-, ⟨b1, b2, b3⟩, b4, b5⟩ := hB
    rw [ht] at b1 b2
    exact hK lo t (k1, ps ++ x.2) h3 (hv_oks_cons.mp hst).2 hlo H1 locs1 (ce + (k1 - x.1)) (sl + (hz_f k1 - hz_f x.1)) ls ⟨⟨⟨b1, b2, b3⟩, hS1⟩, ⟨b4, b5⟩, by show ce + (k1 - x.1) + n0 = k1; omega, by show sl + (hz_f k1 - hz_f x.1) + hz_f n0 = hz_f k1; omega⟩ hl
  · exact h.elim
end HQP
def hl_18 : hv_K hz_S := fun lo st x => lo = [some (Vr 900000), some (Vr 0), some (Vr 5723), some (Vi 0)] ∧ st = [] ∧ x = (287, zp_X10_5723 ++ (zp_X9_0 ++ []))
def hl_0 (l : Launch) : hv_K hz_S := hk_new 0 9 14 287 <| hc_dup <| hk_call l m_X9_init 3 0 1 269 287 zp_X9_0 <| hc_astore 1 <| hk_new 5723 10 32 287 <| hc_dup <| hk_call l m_X10_init 1 5723 270 287 287 zp_X10_5723 <| hc_astore 2 <| hc_iconst 0 <| hc_istore 3 <| hl_18
theorem hl_first (l : Launch) : hl_0 l [some (Vr 900000), none, none, none] [] (0, []) := by
  simp only [hl_0, hl_18, hk_new, hk_newa, hk_multi, hk_putI, hk_putR, hk_getR, hk_iast, hk_aast, hk_obj, hk_call, hk_ret, hk_no, hc_iconst, hc_lconst, hc_iload, hc_lload, hc_aload, hc_istore, hc_astore, hc_lstore, hc_iinc, hc_dup, hc_dup2, hc_pop, hc_iadd, hc_isub, hc_imul, hc_iaddw, hc_isubw, hc_imulw, hc_inegw, hc_idiv, hc_irem, hc_ineg, hc_b2, hc_b1, hc_i2l, hc_l2i, hc_ladd, hc_l2, hc_lsh, hc_lcmp, hc_if, hc_icmp, hc_jump, hc_getI, hc_getR, hc_putI, hc_putZ, hc_xald, hc_iast, hc_bast, hc_zast, hc_aald, hc_alen, hc_copy, hc_gets, hc_getsI, hc_sald, hc_ldcs, hc_sval, hc_scod, hc_slen, hc_sbald, hc_callI, hc_callL, hc_callV, hc_max, hc_min, hc_abs, hc_ireturn, hc_zreturn, hc_creturn, hc_lreturn, hc_return, hc_none, hc_switch, hv_sw, hv_get, hv_set, hv_set2, hv_mask, hv_fr, hv_noL, hv_pop, hv_pk, hv_isO, hv_isS, hv_any, hv_w, hv_cat, he_nil, he_i, he_r, he_l, hv_repl_0, hv_repl_s, if_true, if_false, and_true, true_and, and_self, Nat.zero_add, Nat.add_zero, Nat.reduceAdd, Nat.reduceLeDiff, List.length_cons, List.length_nil, Int.toNat_natCast, Bool.false_eq_true, reduceIte, Int.toNat_zero, Int.toNat_one, Int.reduceToNat, or_true, true_or, Int.reduceEq, Int.reduceLT, Int.reduceLE, Int.reduceNeg, Int.reduceAdd, Int.reduceSub, Int.reduceMul, Nat.reduceMul, Nat.reduceEqDiff, implies_true, false_implies, true_implies, not_true_eq_false, not_false_eq_true, ne_eq, or_false, false_or, and_false, false_and, or_self, Classical.not_not, Int.zero_add, Int.add_zero, List.cons_append, List.nil_append, List.append_assoc]
  (repeat' (with_reducible refine And.intro ?_ ?_)) <;> first | trivial | exact zi_X9_0 l | exact zi_X10_5723 l _ | rfl | decide +kernel
theorem hz_f_ends : hz_f 287 = 9295 ∧ hz_f 0 = 0 := by decide +kernel
/-- YOUR PART: from the entry, for every script of at most 3584 ints, the law comes to its end with true ('hflags': the launch's flags, for a law that throws: no stack traces) -/
theorem whole_start {p : Program} {e : Env} {s : State} {m : MethodId} {below : List Frame} {meth : Method} {c : Code} (l : Launch) (hflags : l.flags = flags0) {b L : Nat} {xs : Nat → Int32} (hL : L ≤ 3584) (C0 : lw_At p s m meth c b L xs) : W p l e room_1 s m #[Value.ref b] below meth c s.heap [] 0 0 (lw_Z below #[Value.ref b] s) (entryFrame m ([Value.ref b] : List Value).toArray 4) := by
  obtain ⟨hx, hb, hr, hml, hown, hts, hX, hbl, hlk, hg⟩ := C0
  obtain ⟨D, ρ, kA, hK, hR, hρb⟩ := sx_all hts hg b
  have hY := sx_Y hts
  obtain ⟨f1, f2⟩ := hz_f_ends
  have hws : ∀ w ∈ hh_ws, w.before #[Value.ref b] s = true := fun w hw => hts w (List.mem_filter.mp hw).1
  have X : hx_C p room_1 s m #[Value.ref b] meth c "HeelsInLaw" code 4 40 D ρ kA (hz_A s.heap.size) 287 9295 := ⟨hx, hb, hml, hown, hws, ⟨by decide +kernel, by decide +kernel⟩, ⟨by decide +kernel, by decide +kernel⟩, hK, hz_hh_D hR kA, hlk⟩
  have XZ : hz_C p room_1 s m #[Value.ref b] meth c "HeelsInLaw" code 4 40 D ρ kA s.heap.size 0 287 := ⟨by rw [f1, f2]; exact X, ⟨hR, hY⟩, rfl, Nat.zero_le _⟩
  have Y : hl_Y p s m meth c ρ b L xs 287 9295 := ⟨⟨hx, hb⟩, ⟨hρb, hX, hbl⟩, ⟨hr, hlk⟩, Nat.le_of_ble_eq_true rfl, Nat.le_of_ble_eq_true rfl⟩
  have s18 := hl_blocks (l := l) (e := e) (below := below) X Y
  have hloop := hl_loop l (xs := xs) (L := L) (At := hw_A X l e below (lw_Z below #[Value.ref b] s)) hL (fun lo st x h => s18 lo st x h) 512 0 (hz_m zL) rfl zm_IV
  have k18 : hw_S p l e room_1 s m #[Value.ref b] below meth c (lw_Z below #[Value.ref b] s) 4 ρ (hz_P D ρ kA s.heap.size 0 s.heap) hl_18 18 := by
    rintro lo st x ⟨rfl, rfl, rfl⟩ hst hlo H locs ce sl ls hP0 hl
    obtain ⟨⟨⟨hP, hsz, hle⟩, hS⟩, ⟨hI, hZ⟩, hce, hsl⟩ := hP0
    rw [zL_eq] at hP hI
    have e1 : ce = 287 := hce
    have e2 : sl = 9295 := by
      have h : sl + hz_f 0 = hz_f 287 := hsl
      rw [f1, f2] at h
      exact h
    exact hloop hst hlo H locs ce sl ls ⟨zm_pic hP, hS, hI, e1, e2⟩ hl
  have k0 : hw_S p l e room_1 s m #[Value.ref b] below meth c (lw_Z below #[Value.ref b] s) 4 ρ (hz_P D ρ kA s.heap.size 0 s.heap) (hl_0 l) 0 := hq_new XZ hf_X9 hzd_X9 wr_19 wr_20 wo_X9_init.2.1 dL_law_0 (hs_dup hx hb dL_law_3 (hq_callP XZ wo_X9_init.1 wo_X9_init.2.1 wo_X9_init.2.2 rfl rfl (by decide +kernel) (by decide) wr_21 (by decide) dL_law_4 (hs_astore_n hx hb dL_law_7 rfl (by decide) (hq_new XZ hf_X10 hzd_X10 wr_888 wr_889 wo_X10_init.2.1 dL_law_8 (hs_dup hx hb dL_law_11 (hq_callP XZ wo_X10_init.1 wo_X10_init.2.1 wo_X10_init.2.2 rfl rfl (by decide +kernel) (by decide) wr_890 (by decide) dL_law_12 (hs_astore_n hx hb dL_law_15 rfl (by decide) (hs_iconst hx hb dL_law_16 (by decide) (by decide) (hs_istore_n hx hb dL_law_17 rfl (by decide) k18)))))))))
  rw [lg_entry_eq]
  refine k0 _ _ _ (hl_first l) (fun v hv => by cases hv) (fun i v hv => ?_) s.heap [] 0 0 _ ⟨⟨⟨fun k q hq => ?_, rfl, Nat.zero_le _⟩, va_S.rf⟩, ⟨fun a => (show hv_I 0 by decide), fun a _ => rfl⟩, rfl, Nat.zero_add _⟩ ?_
  · match i with
    | 0 => cases hv; trivial
    | 1 => cases hv
    | 2 => cases hv
    | 3 => cases hv
    | i + 4 => cases hv
  · obtain ⟨c, h1, h2, h3⟩ := hz_W_inv hq
    exact absurd h2 (Nat.not_lt_zero _)
  · have he := lv_entry [Value.ref b] (n := 4) (by simp [lg_sl, Value.category])
    refine ⟨he.1, he.2.1, fun i v hv => ?_⟩
    match i with
    | 0 =>
      cases hv
      show _ = some (Slot.val (Value.ref (ρ 900000)))
      rw [hρb]
      exact he.2.2 (0, _) List.mem_cons_self
    | 1 => cases hv
    | 2 => cases hv
    | 3 => cases hv
    | i + 4 => cases hv
