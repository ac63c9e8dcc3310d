/-! THE LAYER, the world: every cell of both systems at a flat base; fields and elements are places behind it -/
def hh_cells_0 : List (Nat × Nat × Nat × Nat) := [(0, 0, 9, 14), (14, 1, 3, 8), (22, 0, 5, 8), (30, 1, 1, 700), (730, 0, 3, 3), (733, 1, 5, 2), (735, 0, 7, 4), (739, 1, 7, 8), (747, 1, 0, 5), (752, 1, 0, 5), (757, 1, 0, 5), (762, 1, 0, 5), (767, 1, 0, 5), (772, 1, 0, 5), (777, 1, 0, 5), (782, 1, 0, 5), (787, 1, 7, 6), (793, 1, 0, 4), (797, 1, 0, 4), (801, 1, 0, 4), (805, 1, 0, 4), (809, 1, 0, 4), (813, 1, 0, 4), (817, 0, 7, 4), (821, 1, 7, 8), (829, 1, 0, 5), (834, 1, 0, 5), (839, 1, 0, 5), (844, 1, 0, 5), (849, 1, 0, 5), (854, 1, 0, 5), (859, 1, 0, 5), (864, 1, 0, 5), (869, 1, 7, 6), (875, 1, 0, 4), (879, 1, 0, 4), (883, 1, 0, 4), (887, 1, 0, 4), (891, 1, 0, 4), (895, 1, 0, 4)]
def hh_cells_1 : List (Nat × Nat × Nat × Nat) := [(899, 1, 0, 3), (902, 0, 3, 3), (905, 1, 5, 2), (907, 0, 7, 4), (911, 1, 7, 8), (919, 1, 0, 5), (924, 1, 0, 5), (929, 1, 0, 5), (934, 1, 0, 5), (939, 1, 0, 5), (944, 1, 0, 5), (949, 1, 0, 5), (954, 1, 0, 5), (959, 1, 7, 6), (965, 1, 0, 4), (969, 1, 0, 4), (973, 1, 0, 4), (977, 1, 0, 4), (981, 1, 0, 4), (985, 1, 0, 4), (989, 0, 7, 4), (993, 1, 7, 8), (1001, 1, 0, 5), (1006, 1, 0, 5), (1011, 1, 0, 5), (1016, 1, 0, 5), (1021, 1, 0, 5), (1026, 1, 0, 5), (1031, 1, 0, 5), (1036, 1, 0, 5), (1041, 1, 7, 6), (1047, 1, 0, 4), (1051, 1, 0, 4), (1055, 1, 0, 4), (1059, 1, 0, 4), (1063, 1, 0, 4), (1067, 1, 0, 4), (1071, 1, 0, 3), (1074, 0, 8, 12), (1086, 1, 0, 2)]
def hh_cells_2 : List (Nat × Nat × Nat × Nat) := [(1088, 1, 7, 2), (1090, 1, 0, 8), (1098, 1, 0, 8), (1106, 1, 7, 2), (1108, 1, 0, 8), (1116, 1, 0, 8), (1124, 1, 7, 2), (1126, 1, 0, 8), (1134, 1, 0, 8), (1142, 1, 7, 5), (1147, 1, 0, 60), (1207, 1, 0, 60), (1267, 1, 0, 60), (1327, 1, 0, 60), (1387, 1, 0, 60), (1447, 0, 8, 12), (1459, 1, 0, 2), (1461, 1, 7, 2), (1463, 1, 0, 8), (1471, 1, 0, 8), (1479, 1, 7, 2), (1481, 1, 0, 8), (1489, 1, 0, 8), (1497, 1, 7, 2), (1499, 1, 0, 8), (1507, 1, 0, 8), (1515, 1, 7, 5), (1520, 1, 0, 60), (1580, 1, 0, 60), (1640, 1, 0, 60), (1700, 1, 0, 60), (1760, 1, 0, 60), (1820, 1, 4, 2), (1822, 1, 6, 2), (1824, 0, 4, 1), (1825, 1, 0, 256), (2081, 0, 0, 5), (2086, 1, 0, 16), (2102, 1, 0, 16), (2118, 1, 0, 17)]
def hh_cells_3 : List (Nat × Nat × Nat × Nat) := [(2135, 0, 2, 2), (2137, 1, 7, 21), (2158, 1, 0, 100), (2258, 1, 0, 100), (2358, 1, 0, 100), (2458, 1, 0, 100), (2558, 1, 0, 100), (2658, 1, 0, 100), (2758, 1, 0, 100), (2858, 1, 0, 100), (2958, 1, 0, 100), (3058, 1, 0, 100), (3158, 1, 0, 100), (3258, 1, 0, 100), (3358, 1, 0, 100), (3458, 1, 0, 100), (3558, 1, 0, 100), (3658, 1, 0, 100), (3758, 1, 0, 100), (3858, 1, 0, 100), (3958, 1, 0, 100), (4058, 1, 0, 100), (4158, 1, 0, 100), (4258, 0, 1, 7), (4265, 1, 0, 16), (4281, 0, 6, 4), (4285, 1, 0, 40), (4325, 0, 6, 4), (4329, 1, 0, 40), (4369, 0, 6, 4), (4373, 1, 0, 40), (4413, 0, 6, 4), (4417, 1, 0, 40), (4457, 0, 6, 4), (4461, 1, 0, 40), (4501, 0, 6, 4), (4505, 1, 0, 40), (4545, 0, 6, 4), (4549, 1, 0, 40), (4589, 0, 6, 4)]
def hh_cells_4 : List (Nat × Nat × Nat × Nat) := [(4593, 1, 0, 40), (4633, 0, 3, 3), (4636, 1, 5, 2), (4638, 0, 7, 4), (4642, 1, 7, 8), (4650, 1, 0, 5), (4655, 1, 0, 5), (4660, 1, 0, 5), (4665, 1, 0, 5), (4670, 1, 0, 5), (4675, 1, 0, 5), (4680, 1, 0, 5), (4685, 1, 0, 5), (4690, 1, 7, 6), (4696, 1, 0, 4), (4700, 1, 0, 4), (4704, 1, 0, 4), (4708, 1, 0, 4), (4712, 1, 0, 4), (4716, 1, 0, 4), (4720, 0, 7, 4), (4724, 1, 7, 8), (4732, 1, 0, 5), (4737, 1, 0, 5), (4742, 1, 0, 5), (4747, 1, 0, 5), (4752, 1, 0, 5), (4757, 1, 0, 5), (4762, 1, 0, 5), (4767, 1, 0, 5), (4772, 1, 7, 6), (4778, 1, 0, 4), (4782, 1, 0, 4), (4786, 1, 0, 4), (4790, 1, 0, 4), (4794, 1, 0, 4), (4798, 1, 0, 4), (4802, 1, 0, 3), (4805, 0, 8, 12), (4817, 1, 0, 2)]
def hh_cells_5 : List (Nat × Nat × Nat × Nat) := [(4819, 1, 7, 2), (4821, 1, 0, 8), (4829, 1, 0, 8), (4837, 1, 7, 2), (4839, 1, 0, 8), (4847, 1, 0, 8), (4855, 1, 7, 2), (4857, 1, 0, 8), (4865, 1, 0, 8), (4873, 1, 7, 5), (4878, 1, 0, 60), (4938, 1, 0, 60), (4998, 1, 0, 60), (5058, 1, 0, 60), (5118, 1, 0, 60), (5178, 0, 3, 3), (5181, 1, 5, 2), (5183, 0, 7, 4), (5187, 1, 7, 8), (5195, 1, 0, 5), (5200, 1, 0, 5), (5205, 1, 0, 5), (5210, 1, 0, 5), (5215, 1, 0, 5), (5220, 1, 0, 5), (5225, 1, 0, 5), (5230, 1, 0, 5), (5235, 1, 7, 6), (5241, 1, 0, 4), (5245, 1, 0, 4), (5249, 1, 0, 4), (5253, 1, 0, 4), (5257, 1, 0, 4), (5261, 1, 0, 4), (5265, 0, 7, 4), (5269, 1, 7, 8), (5277, 1, 0, 5), (5282, 1, 0, 5), (5287, 1, 0, 5), (5292, 1, 0, 5)]
def hh_cells_6 : List (Nat × Nat × Nat × Nat) := [(5297, 1, 0, 5), (5302, 1, 0, 5), (5307, 1, 0, 5), (5312, 1, 0, 5), (5317, 1, 7, 6), (5323, 1, 0, 4), (5327, 1, 0, 4), (5331, 1, 0, 4), (5335, 1, 0, 4), (5339, 1, 0, 4), (5343, 1, 0, 4), (5347, 1, 0, 3), (5350, 0, 8, 12), (5362, 1, 0, 2), (5364, 1, 7, 2), (5366, 1, 0, 8), (5374, 1, 0, 8), (5382, 1, 7, 2), (5384, 1, 0, 8), (5392, 1, 0, 8), (5400, 1, 7, 2), (5402, 1, 0, 8), (5410, 1, 0, 8), (5418, 1, 7, 5), (5423, 1, 0, 60), (5483, 1, 0, 60), (5543, 1, 0, 60), (5603, 1, 0, 60), (5663, 1, 0, 60), (5723, 0, 10, 32), (5755, 1, 0, 8), (5763, 1, 0, 8), (5771, 1, 0, 320), (6091, 1, 0, 136), (6227, 1, 0, 136), (6363, 1, 0, 370), (6733, 1, 0, 700), (7433, 1, 0, 2), (7435, 1, 0, 370), (7805, 1, 0, 4)]
def hh_cells_7 : List (Nat × Nat × Nat × Nat) := [(7809, 1, 0, 256), (8065, 1, 0, 100), (8165, 1, 0, 100), (8265, 1, 2, 2), (8267, 1, 0, 272), (8539, 1, 0, 740), (9279, 1, 0, 16)]
def hh_cells : List (Nat × Nat × Nat × Nat) := hh_cells_0 ++ (hh_cells_1 ++ (hh_cells_2 ++ (hh_cells_3 ++ (hh_cells_4 ++ (hh_cells_5 ++ (hh_cells_6 ++ (hh_cells_7)))))))
def hh_refs_0 : List (Nat × Nat) := [(0, 14), (2, 22), (4, 730), (5, 902), (6, 1074), (7, 1447), (8, 1820), (9, 1822), (10, 1824), (11, 2081), (12, 2135), (13, 4258), (14, 4281), (15, 4325), (16, 4369), (17, 4413), (18, 4457), (19, 4501), (20, 4545), (21, 4589), (22, 30), (731, 733), (732, 899), (733, 735), (734, 817), (736, 739), (738, 787), (739, 747), (740, 752), (741, 757), (742, 762), (743, 767), (744, 772), (745, 777), (746, 782), (787, 793), (788, 797), (789, 801), (790, 805), (791, 809)]
def hh_refs_1 : List (Nat × Nat) := [(792, 813), (818, 821), (820, 869), (821, 829), (822, 834), (823, 839), (824, 844), (825, 849), (826, 854), (827, 859), (828, 864), (869, 875), (870, 879), (871, 883), (872, 887), (873, 891), (874, 895), (903, 905), (904, 1071), (905, 907), (906, 989), (908, 911), (910, 959), (911, 919), (912, 924), (913, 929), (914, 934), (915, 939), (916, 944), (917, 949), (918, 954), (959, 965), (960, 969), (961, 973), (962, 977), (963, 981), (964, 985), (990, 993), (992, 1041), (993, 1001)]
def hh_refs_2 : List (Nat × Nat) := [(994, 1006), (995, 1011), (996, 1016), (997, 1021), (998, 1026), (999, 1031), (1000, 1036), (1041, 1047), (1042, 1051), (1043, 1055), (1044, 1059), (1045, 1063), (1046, 1067), (1074, 1086), (1082, 1088), (1083, 1106), (1084, 1124), (1085, 1142), (1088, 1090), (1089, 1098), (1106, 1108), (1107, 1116), (1124, 1126), (1125, 1134), (1142, 1147), (1143, 1207), (1144, 1267), (1145, 1327), (1146, 1387), (1447, 1459), (1455, 1461), (1456, 1479), (1457, 1497), (1458, 1515), (1461, 1463), (1462, 1471), (1479, 1481), (1480, 1489), (1497, 1499), (1498, 1507)]
def hh_refs_3 : List (Nat × Nat) := [(1515, 1520), (1516, 1580), (1517, 1640), (1518, 1700), (1519, 1760), (1820, 4633), (1821, 5178), (1822, 4805), (1823, 5350), (1824, 1825), (2081, 2086), (2082, 2102), (2083, 2118), (2135, 2137), (2137, 2158), (2138, 2258), (2139, 2358), (2140, 2458), (2141, 2558), (2142, 2658), (2143, 2758), (2144, 2858), (2145, 2958), (2146, 3058), (2147, 3158), (2148, 3258), (2149, 3358), (2150, 3458), (2151, 3558), (2152, 3658), (2153, 3758), (2154, 3858), (2155, 3958), (2156, 4058), (2157, 4158), (4263, 4265), (4284, 4285), (4328, 4329), (4372, 4373), (4416, 4417)]
def hh_refs_4 : List (Nat × Nat) := [(4460, 4461), (4504, 4505), (4548, 4549), (4592, 4593), (4634, 4636), (4635, 4802), (4636, 4638), (4637, 4720), (4639, 4642), (4641, 4690), (4642, 4650), (4643, 4655), (4644, 4660), (4645, 4665), (4646, 4670), (4647, 4675), (4648, 4680), (4649, 4685), (4690, 4696), (4691, 4700), (4692, 4704), (4693, 4708), (4694, 4712), (4695, 4716), (4721, 4724), (4723, 4772), (4724, 4732), (4725, 4737), (4726, 4742), (4727, 4747), (4728, 4752), (4729, 4757), (4730, 4762), (4731, 4767), (4772, 4778), (4773, 4782), (4774, 4786), (4775, 4790), (4776, 4794), (4777, 4798)]
def hh_refs_5 : List (Nat × Nat) := [(4805, 4817), (4813, 4819), (4814, 4837), (4815, 4855), (4816, 4873), (4819, 4821), (4820, 4829), (4837, 4839), (4838, 4847), (4855, 4857), (4856, 4865), (4873, 4878), (4874, 4938), (4875, 4998), (4876, 5058), (4877, 5118), (5179, 5181), (5180, 5347), (5181, 5183), (5182, 5265), (5184, 5187), (5186, 5235), (5187, 5195), (5188, 5200), (5189, 5205), (5190, 5210), (5191, 5215), (5192, 5220), (5193, 5225), (5194, 5230), (5235, 5241), (5236, 5245), (5237, 5249), (5238, 5253), (5239, 5257), (5240, 5261), (5266, 5269), (5268, 5317), (5269, 5277), (5270, 5282)]
def hh_refs_6 : List (Nat × Nat) := [(5271, 5287), (5272, 5292), (5273, 5297), (5274, 5302), (5275, 5307), (5276, 5312), (5317, 5323), (5318, 5327), (5319, 5331), (5320, 5335), (5321, 5339), (5322, 5343), (5350, 5362), (5358, 5364), (5359, 5382), (5360, 5400), (5361, 5418), (5364, 5366), (5365, 5374), (5382, 5384), (5383, 5392), (5400, 5402), (5401, 5410), (5418, 5423), (5419, 5483), (5420, 5543), (5421, 5603), (5422, 5663), (5725, 5755), (5726, 5763), (5727, 5771), (5728, 6091), (5729, 6227), (5731, 6363), (5732, 6733), (5743, 7433), (5744, 7435), (5745, 7805), (5746, 7809), (5747, 8065)]
def hh_refs_7 : List (Nat × Nat) := [(5748, 8165), (5750, 8265), (5751, 8267), (5752, 8539), (5753, 9279)]
def hh_refs : List (Nat × Nat) := hh_refs_0 ++ (hh_refs_1 ++ (hh_refs_2 ++ (hh_refs_3 ++ (hh_refs_4 ++ (hh_refs_5 ++ (hh_refs_6 ++ (hh_refs_7)))))))
def hh_nf : List Nat := [5, 7, 2, 3, 1, 8, 4, 4, 12, 14, 32]
def hh_frL : List (List Bool) := [[true, true, true, false, false], [false, false, false, false, false, true, false], [true, false], [false, true, true], [true], [true, false, false, false, false, false, false, false], [false, false, false, true], [false, true, false, true], [true, false, false, false, false, false, false, false, true, true, true, true], [true, false, true, false, true, true, true, true, true, true, true, true, true, true], [false, false, true, true, true, true, true, false, true, true, false, false, false, false, false, false, false, false, false, false, true, true, true, true, true, true, false, true, true, true, true, false]]
def hh_fref (ci k : Nat) : Bool := (hh_frL.getD ci []).getD k false
def hh_cls (a : Nat) : Nat := match hh_cells.lookup a with
  | some (0, x, _) => x
  | _ => 99
def hh_tag (a : Nat) : Nat := match hh_cells.lookup a with
  | some (1, x, _) => x
  | _ => 99
def hh_len (a : Nat) : Nat := match hh_cells.lookup a with
  | some (1, _, n) => n
  | _ => 0
def hh_rf (a : Nat) : Nat := (hh_refs.lookup a).getD 0
def hh_isr (a : Nat) : Bool := (hh_refs.lookup a).isSome
abbrev hm : Type := Nat → Int
def hh_upd (mem : hm) (a : Nat) (z : Int) : hm := fun b => if b = a then z else mem b
def hh_fv (ρ : Nat → Nat) (mem : hm) (a : Nat) : Value := if hh_isr a then .ref (ρ (hh_rf a)) else .int (Int32.ofInt (mem a))
def hh_fa (mem : hm) (b n : Nat) : Nat → Int32 := fun j => if j < n then Int32.ofInt (mem (b + j)) else 0
def hh_e (ρ : Nat → Nat) (kA : Nat → ClassId) (mem : hm) (c : Nat × Nat × Nat × Nat) : va_E :=
  if c.2.1 = 0 then .inr (c.2.2.1, (List.range c.2.2.2).map (fun k => hh_fv ρ mem (c.1 + k)))
  else if c.2.2.1 < 3 then .inl (kA c.1, c.2.2.2, .inl (hh_fa mem c.1 c.2.2.2))
  else .inl (kA c.1, c.2.2.2, .inr (.inr (.inr (.inr (fun j => some (ρ (hh_rf (c.1 + j))))))))
def hh_W (ρ : Nat → Nat) (kA : Nat → ClassId) (mem : hm) : va_W := hh_cells.map (fun c => (ρ c.1, hh_e ρ kA mem c))
def hh_ty (x : Nat) : FieldType := match x with
  | 0 => .int
  | 1 => .byte
  | 2 => .boolean
  | 3 => .object "HeelsIn$Sheet"
  | 4 => .object "HeelsIn$Match"
  | 5 => .object "HeelsIn$Side"
  | 6 => .object "HeelsIn$Tug"
  | _ => .array .int
def hh_arrs : List (Nat × Nat × Nat × Nat) := hh_cells.filter (fun c => c.2.1 == 1)
def hh_tys (kA : Nat → ClassId) : List (ClassId × FieldType) := hh_arrs.map (fun c => (kA c.1, hh_ty c.2.2.1))
def hh_pw : List (Nat × Nat × Nat × Nat) → Bool
  | c :: d :: l => decide (c.1 + c.2.2.2 ≤ d.1) && decide (0 < c.2.2.2) && hh_pw (d :: l)
  | _ => true
theorem hh_pw_ok : hh_pw hh_cells = true := by decide +kernel
theorem hh_ok_obj : hh_cells.all (fun c => decide (c.2.1 = 0 → c.2.2.1 < 11 ∧ c.2.2.2 = hh_nf.getD c.2.2.1 0 ∧ ∀ k, k < c.2.2.2 → hh_isr (c.1 + k) = hh_fref c.2.2.1 k)) = true := by decide +kernel
theorem hh_ok_kind : hh_cells.all (fun c => decide (c.2.1 < 2)) = true := by decide +kernel
theorem hh_pw_le : ∀ (l : List (Nat × Nat × Nat × Nat)), hh_pw l = true → ∀ (i j : Nat) (c d : Nat × Nat × Nat × Nat), l[i]? = some c → l[j]? = some d → i < j → c.1 + c.2.2.2 ≤ d.1
  | [], _, i, j, c, d, h, _, _ => by simp at h
  | [_], _, i, j, c, d, h1, h2, h => by
    have a1 := (List.getElem?_eq_some_iff.mp h1).1
    have a2 := (List.getElem?_eq_some_iff.mp h2).1
    simp at a1 a2
    omega
  | a :: b :: l, hp, i, j, c, d, h1, h2, h => by
    simp only [hh_pw, Bool.and_eq_true, decide_eq_true_eq] at hp
    cases j with
    | zero => omega
    | succ j =>
      cases i with
      | zero =>
        rw [List.getElem?_cons_zero] at h1
        cases h1
        rw [List.getElem?_cons_succ] at h2
        cases j with
        | zero =>
          rw [List.getElem?_cons_zero] at h2
          cases h2
          exact hp.1.1
        | succ j =>
          have := hh_pw_le (b :: l) hp.2 0 (j + 1) b d rfl h2 (by omega)
          have := hp.1.1
          omega
      | succ i =>
        rw [List.getElem?_cons_succ] at h1 h2
        exact hh_pw_le (b :: l) hp.2 i j c d h1 h2 (by omega)
theorem hh_apart {i j : Nat} {c d : Nat × Nat × Nat × Nat} (h1 : hh_cells[i]? = some c) (h2 : hh_cells[j]? = some d) (hij : i ≠ j) {k q : Nat} (hk : k < c.2.2.2) (hq : q < d.2.2.2) : c.1 + k ≠ d.1 + q := by
  rcases Nat.lt_or_gt_of_ne hij with h | h
  · have := hh_pw_le _ hh_pw_ok i j c d h1 h2 h
    omega
  · have := hh_pw_le _ hh_pw_ok j i d c h2 h1 h
    omega
theorem hh_lookup : ∀ {l : List (Nat × Nat × Nat × Nat)} {a : Nat} {v : Nat × Nat × Nat}, l.lookup a = some v → ∃ p : Nat, l[p]? = some (a, v)
  | [], _, _, h => by cases h
  | (b, w) :: l, a, v, h => by
    rw [List.lookup_cons] at h
    by_cases hb : a == b
    · rw [hb] at h
      cases h
      exact ⟨0, by rw [eq_of_beq hb]; rfl⟩
    · rw [Bool.not_eq_true _ |>.mp hb] at h
      obtain ⟨p, hp⟩ := hh_lookup h
      exact ⟨p + 1, hp⟩
theorem hh_of_cls {a ci : Nat} (h : hh_cls a = ci) (hci : ci < 11) : ∃ p : Nat, hh_cells[p]? = some (a, 0, ci, hh_nf.getD ci 0) ∧ ∀ k, k < hh_nf.getD ci 0 → hh_isr (a + k) = hh_fref ci k := by
  unfold hh_cls at h
  split at h
  · rename_i x n he
    subst h
    obtain ⟨p, hp⟩ := hh_lookup he
    have h2 := List.all_eq_true.mp hh_ok_obj _ (List.mem_of_getElem? hp)
    simp only [decide_eq_true_eq] at h2
    obtain ⟨-, h3, h4⟩ := h2 trivial
    rw [h3] at hp h4
    exact ⟨p, hp, h4⟩
  · omega
theorem hh_of_tag {a x : Nat} (h : hh_tag a = x) (hx : x < 8) : ∃ p : Nat, hh_cells[p]? = some (a, 1, x, hh_len a) := by
  unfold hh_tag at h
  split at h
  · rename_i y n he
    subst h
    obtain ⟨p, hp⟩ := hh_lookup he
    refine ⟨p, ?_⟩
    have : hh_len a = n := by simp [hh_len, he]
    rw [this]
    exact hp
  · omega
theorem hh_W_at {ρ : Nat → Nat} {kA : Nat → ClassId} {mem : hm} {p : Nat} {c : Nat × Nat × Nat × Nat} (h : hh_cells[p]? = some c) : (hh_W ρ kA mem)[p]? = some (ρ c.1, hh_e ρ kA mem c) := by
  unfold hh_W
  rw [List.getElem?_map, h]
  rfl
theorem hh_tys_at {kA : Nat → ClassId} {p : Nat} {a x n : Nat} (h : hh_cells[p]? = some (a, 1, x, n)) : ∃ t : Nat, (hh_tys kA)[t]? = some (kA a, hh_ty x) := by
  unfold hh_tys hh_arrs
  exact List.getElem?_of_mem (List.mem_map.mpr ⟨_, List.mem_filter.mpr ⟨List.mem_of_getElem? h, by rfl⟩, rfl⟩)
theorem hh_e_keep {ρ : Nat → Nat} {kA : Nat → ClassId} {mem mem' : hm} {c : Nat × Nat × Nat × Nat} (h : ∀ k, k < c.2.2.2 → mem' (c.1 + k) = mem (c.1 + k)) : hh_e ρ kA mem' c = hh_e ρ kA mem c := by
  unfold hh_e
  split
  · congr 2
    apply List.map_congr_left
    intro k hk
    unfold hh_fv
    rw [h k (List.mem_range.mp hk)]
  · split
    · congr 4
      funext j
      unfold hh_fa
      split
      · rename_i hj
        rw [h j hj]
      · rfl
    · rfl
/-- one cell is written: the world of the changed memory -/
theorem hh_W_set {ρ : Nat → Nat} {kA : Nat → ClassId} {mem mem' : hm} {p : Nat} {c : Nat × Nat × Nat × Nat} {e : va_E} (h : hh_cells[p]? = some c) (he : e = hh_e ρ kA mem' c) (hk : ∀ b, (∀ k, k < c.2.2.2 → b ≠ c.1 + k) → mem' b = mem b) : (hh_W ρ kA mem).set p (ρ c.1, e) = hh_W ρ kA mem' := by
  apply List.ext_getElem?
  intro i
  by_cases hi : i = p
  · subst hi
    rw [List.getElem?_set_self (by unfold hh_W; rw [List.length_map]; exact (List.getElem?_eq_some_iff.mp h).1), hh_W_at h, he]
  · rw [List.getElem?_set_ne (Ne.symm hi)]
    cases hc : hh_cells[i]? with
    | none =>
      unfold hh_W
      rw [List.getElem?_map, List.getElem?_map, hc]
      rfl
    | some d =>
      rw [hh_W_at hc, hh_W_at hc]
      rw [hh_e_keep (mem := mem) (mem' := mem') (fun k hkd => hk _ (fun q hq hz => hh_apart hc h hi hkd hq hz))]
theorem hh_upd_same (mem : hm) (a : Nat) (z : Int) : hh_upd mem a z a = z := by simp [hh_upd]
theorem hh_upd_ne {mem : hm} {a b : Nat} {z : Int} (h : b ≠ a) : hh_upd mem a z b = mem b := by simp [hh_upd, h]
theorem hh_D_any {A : Nat → Prop} {ρ : Nat → Nat} {kA : Nat → ClassId} {mem : hm} (mem' : hm) (h : va_D A (hh_W ρ kA mem)) : va_D A (hh_W ρ kA mem') := by
  have key : ∀ (k : Nat) (q : Nat × va_E), (hh_W ρ kA mem')[k]? = some q → ∃ q0, (hh_W ρ kA mem)[k]? = some q0 ∧ q0.1 = q.1 := by
    intro k q hk
    unfold hh_W at hk
    rw [List.getElem?_map] at hk
    cases hc : hh_cells[k]? with
    | none => rw [hc] at hk; cases hk
    | some c =>
      rw [hc] at hk
      cases hk
      exact ⟨_, hh_W_at hc, rfl⟩
  refine ⟨fun i j x y hi hj hxy => ?_, fun k q hk => ?_⟩
  · obtain ⟨x0, h1, h2⟩ := key i x hi
    obtain ⟨y0, h3, h4⟩ := key j y hj
    exact h.1 i j x0 y0 h1 h3 (h2.trans (hxy.trans h4.symm))
  · obtain ⟨q0, h1, h2⟩ := key k q hk
    rw [← h2]
    exact h.2 k q0 h1
/-- the words that may go down to callees -/
def hh_ws : List Cond := lw_tbl.filter goodWord
theorem hh_in {w : Cond} (h : w ∈ lw_tbl) (hg : goodWord w = true) : w ∈ hh_ws := List.mem_filter.mpr ⟨h, hg⟩
/-- what is known of a class: its place among the classes, its fields -/
def hh_CF (ci : Nat) (C : String) (F : u_T) (N : Nat) (ty : Nat → FieldType) : Prop := vwCl[ci]? = some (C, F, N) ∧ (∀ w ∈ u_ws C F N, w ∈ hh_ws) ∧ (∀ k, k < N → parseFieldDescriptor (F k).2.2.1 = some (ty k)) ∧ (∀ a, a < N → ∀ b, b < N → a ≠ b → (F a).2.1 ≠ (F b).2.1) ∧ ci < 11 ∧ N = hh_nf.getD ci 0
theorem hf_X0 : hh_CF 0 RX0 TX0 5 tyX0 := ⟨rfl, (by decide +kernel), tyX0_ok, nmX0, (by decide), (by decide)⟩
theorem hf_X1 : hh_CF 1 RX1 TX1 7 tyX1 := ⟨rfl, (by decide +kernel), tyX1_ok, nmX1, (by decide), (by decide)⟩
theorem hf_X2 : hh_CF 2 RX2 TX2 2 tyX2 := ⟨rfl, (by decide +kernel), tyX2_ok, nmX2, (by decide), (by decide)⟩
theorem hf_X3 : hh_CF 3 RX3 TX3 3 tyX3 := ⟨rfl, (by decide +kernel), tyX3_ok, nmX3, (by decide), (by decide)⟩
theorem hf_X4 : hh_CF 4 RX4 TX4 1 tyX4 := ⟨rfl, (by decide +kernel), tyX4_ok, nmX4, (by decide), (by decide)⟩
theorem hf_X5 : hh_CF 5 RX5 TX5 8 tyX5 := ⟨rfl, (by decide +kernel), tyX5_ok, nmX5, (by decide), (by decide)⟩
theorem hf_X6 : hh_CF 6 RX6 TX6 4 tyX6 := ⟨rfl, (by decide +kernel), tyX6_ok, nmX6, (by decide), (by decide)⟩
theorem hf_X7 : hh_CF 7 RX7 TX7 4 tyX7 := ⟨rfl, (by decide +kernel), tyX7_ok, nmX7, (by decide), (by decide)⟩
theorem hf_X8 : hh_CF 8 RX8 TX8 12 tyX8 := ⟨rfl, (by decide +kernel), tyX8_ok, nmX8, (by decide), (by decide)⟩
theorem hf_X9 : hh_CF 9 RX9 TX9 14 tyX9 := ⟨rfl, (by decide +kernel), tyX9_ok, nmX9, (by decide), (by decide)⟩
theorem hf_X10 : hh_CF 10 RX10 TX10 32 tyX10 := ⟨rfl, (by decide +kernel), tyX10_ok, nmX10, (by decide), (by decide)⟩
/-- arrays in static fields: class, field, base, contents -/
def hh_stat : List (String × String × Nat × List Int) := [("HeelsIn$Game", "BREATH_NEEDED", 20000, [0, 2, 1]), ("HeelsIn$Game", "BREATH_GAINED", 20100, [1, -2, -1]), ("HeelsIn$Game", "GAINS", 20200, [0, -2, 1, 2, 0, -3, -1, 3, 0]), ("HeelsIn$Tug", "BREATH_TAKEN", 20300, [1, 3, 2, -2, -1])]
def hh_sl (a : Nat) : List Int := match a with
  | 20000 => [0, 2, 1]
  | 20100 => [1, -2, -1]
  | 20200 => [0, -2, 1, 2, 0, -3, -1, 3, 0]
  | 20300 => [1, 3, 2, -2, -1]
  | _ => []
/-- texts: the place in the constant pool of HeelsIn$Reader, the text -/
def hh_str : List (Nat × String × List Int) := [(57, "side", [115, 105, 100, 101]), (66, "puller", [112, 117, 108, 108, 101, 114]), (87, "when", [119, 104, 101, 110]), (94, "breath", [98, 114, 101, 97, 116, 104]), (96, "theirs", [116, 104, 101, 105, 114, 115]), (98, "thread", [116, 104, 114, 101, 97, 100]), (100, "tenth", [116, 101, 110, 116, 104]), (106, "below", [98, 101, 108, 111, 119]), (108, "above", [97, 98, 111, 118, 101]), (110, "", []), (112, "hold", [104, 111, 108, 100]), (114, "heave", [104, 101, 97, 118, 101]), (116, "counter", [99, 111, 117, 110, 116, 101, 114]), (118, "rest", [114, 101, 115, 116]), (124, "ground", [103, 114, 111, 117, 110, 100])]
def hh_strN : Nat := 15
def hh_strB (k : Nat) : List Int := (hh_str.getD k (0, "", [])).2.2
def hh_strL : List Nat := hh_str.map (fun q => q.2.2.length)
def hh_strC : List (List Int32) := hh_str.map (fun q => q.2.2.map Int32.ofInt)
def hh_sid (k : Nat) : Nat := 40000 + 10 * k
def hh_nest (w : Cond) : Bool := match w with
  | .fieldLinkNest .. => true
  | .methodLinkNest .. => true
  | _ => false
def hh_nw : List Cond := lw_tbl.filter hh_nest
theorem hh_nin {w : Cond} (h : w ∈ lw_tbl) (hg : hh_nest w = true) : w ∈ hh_nw := List.mem_filter.mpr ⟨h, hg⟩
/-- what is known of the tables, of the static fields and of the texts, and stays so -/
def hx_K (D : va_G) (ρ : Nat → Nat) (kA : Nat → ClassId) (A : Nat → Prop) (U : State) : Prop :=
  va_K D vwCl (hh_tys kA) U ∧ (∀ w ∈ hh_nw, va_Nw w U) ∧
  (∀ q ∈ hh_stat, va_Z q.1 q.2.1 "[I" (.ref (ρ q.2.2.1)) A U U.heap ∧ va_T .int (ρ q.2.2.1) q.2.2.2.length (fun j => .int (Int32.ofInt (q.2.2.2.getD j 0))) A U U.heap) ∧
  va_Z "java/lang/String" "COMPACT_STRINGS" "Z" (.int 1) A U U.heap ∧
  va_Zq "jdk/internal/util/Preconditions" "SIOOBE_FORMATTER" "Ljava/util/function/BiFunction;" A U U.heap ∧
  vk_S hh_strN hh_strL hh_strC (fun k => ρ (hh_sid k)) (fun k => ρ (hh_sid k + 5)) A U U.heap ∧
  (∀ k, k < hh_strN → vk_R "HeelsIn$Reader" (hh_str.getD k (0, "", [])).1 (hh_str.getD k (0, "", [])).2.1 (ρ (hh_sid k)) U)
theorem hx_K.moved {D : va_G} {ρ : Nat → Nat} {kA : Nat → ClassId} {A : Nat → Prop} {s U : State} (h : hx_K D ρ kA A s) (hW : s.WarmedH U.vm) (hH : ∀ a : Nat, a < s.heap.size → ¬ A a → U.heap[a]? = s.heap[a]?) : hx_K D ρ kA A U := by
  obtain ⟨h1, h2, h3, h4, h5, h6, h7⟩ := h
  refine ⟨va_K.moved hW.alike h1, fun w hw => ?_, fun q hq => ⟨((h3 q hq).1.moved hW.alike).kept hH, ((h3 q hq).2.moved hW.alike).kept hH⟩, (h4.moved hW.alike).kept hH, (h5.moved hW.alike).kept hH, (h6.moved hW.alike).kept hH, fun k hk => (h7 k hk).warm hW⟩
  have h8 := (List.mem_filter.mp hw).2
  have h9 := h2 w hw
  cases w <;> first | exact va_Nw.warmF hW h9 | exact va_Nw.warmM hW h9 | cases h8
theorem hx_K.same {D : va_G} {ρ : Nat → Nat} {kA : Nat → ClassId} {A : Nat → Prop} {s U : State} (h : hx_K D ρ kA A s) (hv : U.vm = s.vm) (hh : U.heap = s.heap) : hx_K D ρ kA A U := by
  obtain ⟨h1, h2, h3, h4, h5, h6, h7⟩ := h
  have hA : s.vm.Alike U.vm := by rw [hv]; exact Vm.Alike.refl _
  have hH : ∀ a : Nat, a < s.heap.size → ¬ A a → U.heap[a]? = s.heap[a]? := fun a _ _ => by rw [hh]
  refine ⟨va_K.moved hA h1, fun w hw => ?_, fun q hq => ⟨((h3 q hq).1.moved hA).kept hH, ((h3 q hq).2.moved hA).kept hH⟩, (h4.moved hA).kept hH, (h5.moved hA).kept hH, (h6.moved hA).kept hH, fun k hk => (h7 k hk).same hv⟩
  have h8 := (List.mem_filter.mp hw).2
  have h9 := h2 w hw
  cases w <;> first | exact va_Nw.same rfl hv.symm h9 | cases h8
theorem hx_K.narrow {D : va_G} {ρ : Nat → Nat} {kA : Nat → ClassId} {A B : Nat → Prop} {U : State} (h : hx_K D ρ kA A U) (hAB : ∀ q, B q → A q) : hx_K D ρ kA B U := by
  obtain ⟨h1, h2, h3, h4, h5, h6, h7⟩ := h
  exact ⟨h1, h2, fun q hq => ⟨(h3 q hq).1.narrow hAB, (h3 q hq).2.narrow hAB⟩, h4.narrow hAB, h5.narrow hAB, h6.narrow hAB, h7⟩
/-- the picture of a memory -/
def hp_P (D : va_G) (ρ : Nat → Nat) (kA : Nat → ClassId) (A : Nat → Prop) (H0 : Heap) (ce0 sl0 : Nat) : hm → Heap → List Loc → Nat → Nat → Prop := fun mem H locs ce sl =>
  va_P D vwCl (hh_W ρ kA mem) H ∧ va_S A H0 H locs ∧ (∀ a, hv_I (mem a)) ∧ ce = ce0 ∧ sl = sl0
/-- all that a body's commands need -/
def hx_C (p : Program) (R : Room) (s : State) (m : MethodId) (args : Array Value) (meth : Method) (c : Code) (own : String) (cc : ByteArray) (nL d : Nat) (D : va_G) (ρ : Nat → Nat) (kA : Nat → ClassId) (A : Nat → Prop) (ce sl : Nat) : Prop :=
  p.tables.exec = Jvm.exec ∧ c.code = cc ∧ c.maxLocals = nL ∧ s.vm.findClass own = some m.cls ∧ (∀ w ∈ hh_ws, w.before args s = true) ∧ (d ≤ R.frames ∧ 60 * d ≤ R.locals) ∧ (ce ≤ R.cells ∧ sl ≤ R.slots) ∧ hx_K D ρ kA A s ∧ (∀ mem, va_D A (hh_W ρ kA mem)) ∧ meth.locks = false
