/-! what the premises say of static fields and texts, by their places -/
def s_F : List Cond := flatC (Jvm.Cond.and given_1 narrow_1)
theorem s_ok {args : Array Value} {s : State} (h : (Jvm.Cond.and given_1 narrow_1).before args s = true) (k : Nat) {w : Cond} (hw : s_F[k]? = some w) : w.before args s = true := flat_of_before _ h w (List.mem_of_getElem? hw)
def s_tm (k : Nat) : Term := .string "HeelsIn$Reader" (hh_str.getD k (0, "", [])).1
def s_vl (k : Nat) : Term := .field (s_tm k) "java/lang/String" "value" "[B"
def s_st (i : Nat) : String × String × Nat × List Int := hh_stat.getD i ("", "", 0, [])
def s_sm (i : Nat) : Term := .static (s_st i).1 (s_st i).2.1 "[I"
def s_pe : List Nat := [85, 93, 104, 114, 127, 141, 156, 171, 187, 204, 217, 235, 255, 278, 299]
def s_ps : List Nat := [18, 24, 30, 10]
def s_pn : List Nat := [0, 103, 112, 124, 137, 151, 165, 180, 196, 208, 225, 244, 266, 286, 309, 0, 0, 113, 125, 138, 152, 166, 181, 197, 209, 226, 245, 267, 287, 310, 0, 0, 0, 126, 139, 153, 167, 182, 198, 210, 227, 246, 268, 288, 311, 0, 0, 0, 0, 140, 154, 168, 183, 199, 211, 228, 247, 269, 289, 312, 0, 0, 0, 0, 0, 155, 169, 184, 200, 212, 229, 248, 270, 290, 313, 0, 0, 0, 0, 0, 0, 170, 185, 201, 213, 230, 249, 271, 291, 314, 0, 0, 0, 0, 0, 0, 0, 186, 202, 214, 231, 250, 272, 292, 315, 0, 0, 0, 0, 0, 0, 0, 0, 203, 215, 232, 251, 273, 293, 316, 0, 0, 0, 0, 0, 0, 0, 0, 0, 216, 233, 252, 274, 294, 317, 0, 0, 0, 0, 0, 0, 0, 0, 0, 0, 234, 253, 275, 295, 318, 0, 0, 0, 0, 0, 0, 0, 0, 0, 0, 0, 254, 276, 296, 319, 0, 0, 0, 0, 0, 0, 0, 0, 0, 0, 0, 0, 277, 297, 320, 0, 0, 0, 0, 0, 0, 0, 0, 0, 0, 0, 0, 0, 298, 321, 0, 0, 0, 0, 0, 0, 0, 0, 0, 0, 0, 0, 0, 0, 322, 0, 0, 0, 0, 0, 0, 0, 0, 0, 0, 0, 0, 0, 0, 0]
def s_pl : List Nat := [841, 850, 857, 698]
def s_pi : List Nat := [117, 117, 117, 114]
def s_pr : List Nat := [521, 586, 599, 600, 601, 602, 603, 608, 609, 610, 611, 612, 613, 614, 619]
theorem sf_ex : ∀ k, k < 15 → s_F[s_pe.getD k 0]? = some (.exactly (s_tm k) "java/lang/String") := by decide +kernel
theorem sf_co : ∀ k, k < 15 → s_F[s_pe.getD k 0 + 1]? = some (.eq (.field (s_tm k) "java/lang/String" "coder" "B") (.int 0)) := by decide +kernel
theorem sf_ar : ∀ k, k < 15 → s_F[s_pe.getD k 0 + 2]? = some (.arrayOf (s_vl k) .byte) := by decide +kernel
theorem sf_le : ∀ k, k < 15 → s_F[s_pe.getD k 0 + 3]? = some (.eq (.length (s_vl k)) (.int (Int32.ofNat (hh_strL.getD k 0)))) := by decide +kernel
theorem sf_el : ∀ k, k < 15 → ∀ j, j < hh_strL.getD k 0 → s_F[s_pe.getD k 0 + (4 + j)]? = some (.eq (.elem (s_vl k) (.int (Int32.ofNat j))) (.int ((hh_strC.getD k []).getD j 0))) := by decide +kernel
theorem sf_ne : ∀ i, i < 15 → ∀ j, j < 15 → i < j → s_F[s_pn.getD (15 * i + j) 0]? = some (.not (.eq (s_tm i) (s_tm j))) := by decide +kernel
theorem sf_sa : ∀ i, i < 4 → s_F[s_ps.getD i 0]? = some (.arrayOf (s_sm i) .int) := by decide +kernel
theorem sf_sl : ∀ i, i < 4 → s_F[s_ps.getD i 0 + 1]? = some (.eq (.length (s_sm i)) (.int (Int32.ofNat (s_st i).2.2.2.length))) := by decide +kernel
theorem sf_se : ∀ i, i < 4 → ∀ j, j < (s_st i).2.2.2.length → s_F[s_ps.getD i 0 + (2 + j)]? = some (.eq (.elem (s_sm i) (.int (Int32.ofNat j))) (.int (Int32.ofInt ((s_st i).2.2.2.getD j 0)))) := by decide +kernel
theorem sf_cs : s_F[4]? = some (.eq (.static "java/lang/String" "COMPACT_STRINGS" "Z") (.int (Int32.ofInt 1))) := by decide +kernel
theorem sf_si : s_F[5]? = some (.isRef (.static "jdk/internal/util/Preconditions" "SIOOBE_FORMATTER" "Ljava/util/function/BiFunction;")) := by decide +kernel
theorem sw_pl : ∀ i, i < 4 → lw_tbl[s_pl.getD i 0]? = some (.laysStatic (s_st i).1 (s_st i).2.1 "[I") := by decide +kernel
theorem sw_pi : ∀ i, i < 4 → lw_tbl[s_pi.getD i 0]? = some (.initialized (s_st i).1) := by decide +kernel
theorem sw_pr : ∀ k, k < 15 → lw_tbl[s_pr.getD k 0]? = some (.stringRef "HeelsIn$Reader" (hh_str.getD k (0, "", [])).1 (hh_str.getD k (0, "", [])).2.1) := by decide +kernel
theorem sw_cs : (Cond.laysStatic "java/lang/String" "COMPACT_STRINGS" "Z") ∈ lw_tbl ∧ (Cond.initialized "java/lang/String") ∈ lw_tbl := ⟨List.mem_of_getElem? (i := 539) (by decide +kernel), List.mem_of_getElem? (i := 122) (by decide +kernel)⟩
theorem sw_si : (Cond.laysStatic "jdk/internal/util/Preconditions" "SIOOBE_FORMATTER" "Ljava/util/function/BiFunction;") ∈ lw_tbl ∧ (Cond.initialized "jdk/internal/util/Preconditions") ∈ lw_tbl := ⟨List.mem_of_getElem? (i := 555) (by decide +kernel), List.mem_of_getElem? (i := 124) (by decide +kernel)⟩
theorem sw_aoSheet : (Cond.arrayOver (.object "HeelsIn$Sheet")) ∈ lw_tbl := List.mem_of_getElem? (i := 137) (by decide +kernel)
theorem sw_aoMatch : (Cond.arrayOver (.object "HeelsIn$Match")) ∈ lw_tbl := List.mem_of_getElem? (i := 286) (by decide +kernel)
theorem sw_aoSide : (Cond.arrayOver (.object "HeelsIn$Side")) ∈ lw_tbl := List.mem_of_getElem? (i := 180) (by decide +kernel)
theorem sw_aoTug : (Cond.arrayOver (.object "HeelsIn$Tug")) ∈ lw_tbl := List.mem_of_getElem? (i := 287) (by decide +kernel)
theorem sw_aoI : (Cond.arrayOver (.array .int)) ∈ lw_tbl := List.mem_of_getElem? (i := 187) (by decide +kernel)
theorem sw_ac_int : (Cond.arrayClass .int) ∈ lw_tbl := List.mem_of_getElem? (i := 217) (by decide +kernel)
theorem sw_ac_byte : (Cond.arrayClass .byte) ∈ lw_tbl := List.mem_of_getElem? (i := 172) (by decide +kernel)
theorem sw_ac_boolean : (Cond.arrayClass .boolean) ∈ lw_tbl := List.mem_of_getElem? (i := 1100) (by decide +kernel)
