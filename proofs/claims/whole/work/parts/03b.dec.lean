theorem dX8_init_0 : decode cX8_init 0 = .ok (.aload_n 0, 1) := by decide +kernel
theorem dX8_init_1 : decode cX8_init 1 = .ok (.invokespecial 3, 3) := by decide +kernel
theorem dX8_init_4 : decode cX8_init 4 = .ok (.aload_n 0, 1) := by decide +kernel
theorem dX8_init_5 : decode cX8_init 5 = .ok (.iconst 2, 1) := by decide +kernel
theorem dX8_init_6 : decode cX8_init 6 = .ok (.newarray .int, 2) := by decide +kernel
theorem dX8_init_8 : decode cX8_init 8 = .ok (.putfield 9, 3) := by decide +kernel
theorem dX8_init_11 : decode cX8_init 11 = .ok (.aload_n 0, 1) := by decide +kernel
theorem dX8_init_12 : decode cX8_init 12 = .ok (.iconst 2, 1) := by decide +kernel
theorem dX8_init_13 : decode cX8_init 13 = .ok (.bipush 8, 2) := by decide +kernel
theorem dX8_init_15 : decode cX8_init 15 = .ok (.multianewarray 15 2, 4) := by decide +kernel
theorem dX8_init_19 : decode cX8_init 19 = .ok (.putfield 17, 3) := by decide +kernel
theorem dX8_init_22 : decode cX8_init 22 = .ok (.aload_n 0, 1) := by decide +kernel
theorem dX8_init_23 : decode cX8_init 23 = .ok (.iconst 2, 1) := by decide +kernel
theorem dX8_init_24 : decode cX8_init 24 = .ok (.bipush 8, 2) := by decide +kernel
theorem dX8_init_26 : decode cX8_init 26 = .ok (.multianewarray 15 2, 4) := by decide +kernel
theorem dX8_init_30 : decode cX8_init 30 = .ok (.putfield 20, 3) := by decide +kernel
theorem dX8_init_33 : decode cX8_init 33 = .ok (.aload_n 0, 1) := by decide +kernel
theorem dX8_init_34 : decode cX8_init 34 = .ok (.iconst 2, 1) := by decide +kernel
theorem dX8_init_35 : decode cX8_init 35 = .ok (.bipush 8, 2) := by decide +kernel
theorem dX8_init_37 : decode cX8_init 37 = .ok (.multianewarray 15 2, 4) := by decide +kernel
theorem dX8_init_41 : decode cX8_init 41 = .ok (.putfield 23, 3) := by decide +kernel
theorem dX8_init_44 : decode cX8_init 44 = .ok (.aload_n 0, 1) := by decide +kernel
theorem dX8_init_45 : decode cX8_init 45 = .ok (.iconst 5, 1) := by decide +kernel
theorem dX8_init_46 : decode cX8_init 46 = .ok (.bipush 60, 2) := by decide +kernel
theorem dX8_init_48 : decode cX8_init 48 = .ok (.multianewarray 15 2, 4) := by decide +kernel
theorem dX8_init_52 : decode cX8_init 52 = .ok (.putfield 26, 3) := by decide +kernel
theorem dX8_init_55 : decode cX8_init 55 = .ok (.return_, 1) := by decide +kernel
theorem dX8_become_0 : decode cX8_become 0 = .ok (.aload_n 0, 1) := by decide +kernel
theorem dX8_become_1 : decode cX8_become 1 = .ok (.aload_n 1, 1) := by decide +kernel
theorem dX8_become_2 : decode cX8_become 2 = .ok (.getfield 29, 3) := by decide +kernel
theorem dX8_become_5 : decode cX8_become 5 = .ok (.putfield 29, 3) := by decide +kernel
theorem dX8_become_8 : decode cX8_become 8 = .ok (.aload_n 0, 1) := by decide +kernel
theorem dX8_become_9 : decode cX8_become 9 = .ok (.aload_n 1, 1) := by decide +kernel
theorem dX8_become_10 : decode cX8_become 10 = .ok (.getfield 33, 3) := by decide +kernel
theorem dX8_become_13 : decode cX8_become 13 = .ok (.putfield 33, 3) := by decide +kernel
theorem dX8_become_16 : decode cX8_become 16 = .ok (.aload_n 0, 1) := by decide +kernel
theorem dX8_become_17 : decode cX8_become 17 = .ok (.aload_n 1, 1) := by decide +kernel
theorem dX8_become_18 : decode cX8_become 18 = .ok (.getfield 37, 3) := by decide +kernel
theorem dX8_become_21 : decode cX8_become 21 = .ok (.putfield 37, 3) := by decide +kernel
theorem dX8_become_24 : decode cX8_become 24 = .ok (.aload_n 0, 1) := by decide +kernel
theorem dX8_become_25 : decode cX8_become 25 = .ok (.aload_n 1, 1) := by decide +kernel
theorem dX8_become_26 : decode cX8_become 26 = .ok (.getfield 40, 3) := by decide +kernel
theorem dX8_become_29 : decode cX8_become 29 = .ok (.putfield 40, 3) := by decide +kernel
theorem dX8_become_32 : decode cX8_become 32 = .ok (.aload_n 0, 1) := by decide +kernel
theorem dX8_become_33 : decode cX8_become 33 = .ok (.aload_n 1, 1) := by decide +kernel
theorem dX8_become_34 : decode cX8_become 34 = .ok (.getfield 43, 3) := by decide +kernel
theorem dX8_become_37 : decode cX8_become 37 = .ok (.putfield 43, 3) := by decide +kernel
theorem dX8_become_40 : decode cX8_become 40 = .ok (.aload_n 0, 1) := by decide +kernel
theorem dX8_become_41 : decode cX8_become 41 = .ok (.aload_n 1, 1) := by decide +kernel
theorem dX8_become_42 : decode cX8_become 42 = .ok (.getfield 46, 3) := by decide +kernel
theorem dX8_become_45 : decode cX8_become 45 = .ok (.putfield 46, 3) := by decide +kernel
theorem dX8_become_48 : decode cX8_become 48 = .ok (.aload_n 0, 1) := by decide +kernel
theorem dX8_become_49 : decode cX8_become 49 = .ok (.aload_n 1, 1) := by decide +kernel
theorem dX8_become_50 : decode cX8_become 50 = .ok (.getfield 49, 3) := by decide +kernel
theorem dX8_become_53 : decode cX8_become 53 = .ok (.putfield 49, 3) := by decide +kernel
theorem dX8_become_56 : decode cX8_become 56 = .ok (.aload_n 1, 1) := by decide +kernel
theorem dX8_become_57 : decode cX8_become 57 = .ok (.getfield 9, 3) := by decide +kernel
theorem dX8_become_60 : decode cX8_become 60 = .ok (.iconst 0, 1) := by decide +kernel
theorem dX8_become_61 : decode cX8_become 61 = .ok (.aload_n 0, 1) := by decide +kernel
theorem dX8_become_62 : decode cX8_become 62 = .ok (.getfield 9, 3) := by decide +kernel
theorem dX8_become_65 : decode cX8_become 65 = .ok (.iconst 0, 1) := by decide +kernel
theorem dX8_become_66 : decode cX8_become 66 = .ok (.iconst 2, 1) := by decide +kernel
theorem dX8_become_67 : decode cX8_become 67 = .ok (.invokestatic 52, 3) := by decide +kernel
theorem dX8_become_70 : decode cX8_become 70 = .ok (.iconst 0, 1) := by decide +kernel
theorem dX8_become_71 : decode cX8_become 71 = .ok (.istore_n 2, 1) := by decide +kernel
theorem dX8_become_72 : decode cX8_become 72 = .ok (.iload_n 2, 1) := by decide +kernel
theorem dX8_become_73 : decode cX8_become 73 = .ok (.iconst 2, 1) := by decide +kernel
theorem dX8_become_74 : decode cX8_become 74 = .ok (.if_icmp .ge 66, 3) := by decide +kernel
theorem dX8_become_77 : decode cX8_become 77 = .ok (.aload_n 1, 1) := by decide +kernel
theorem dX8_become_78 : decode cX8_become 78 = .ok (.getfield 17, 3) := by decide +kernel
theorem dX8_become_81 : decode cX8_become 81 = .ok (.iload_n 2, 1) := by decide +kernel
theorem dX8_become_82 : decode cX8_become 82 = .ok (.aaload, 1) := by decide +kernel
theorem dX8_become_83 : decode cX8_become 83 = .ok (.iconst 0, 1) := by decide +kernel
theorem dX8_become_84 : decode cX8_become 84 = .ok (.aload_n 0, 1) := by decide +kernel
theorem dX8_become_85 : decode cX8_become 85 = .ok (.getfield 17, 3) := by decide +kernel
theorem dX8_become_88 : decode cX8_become 88 = .ok (.iload_n 2, 1) := by decide +kernel
theorem dX8_become_89 : decode cX8_become 89 = .ok (.aaload, 1) := by decide +kernel
theorem dX8_become_90 : decode cX8_become 90 = .ok (.iconst 0, 1) := by decide +kernel
theorem dX8_become_91 : decode cX8_become 91 = .ok (.bipush 8, 2) := by decide +kernel
theorem dX8_become_93 : decode cX8_become 93 = .ok (.invokestatic 52, 3) := by decide +kernel
theorem dX8_become_96 : decode cX8_become 96 = .ok (.aload_n 1, 1) := by decide +kernel
theorem dX8_become_97 : decode cX8_become 97 = .ok (.getfield 20, 3) := by decide +kernel
theorem dX8_become_100 : decode cX8_become 100 = .ok (.iload_n 2, 1) := by decide +kernel
theorem dX8_become_101 : decode cX8_become 101 = .ok (.aaload, 1) := by decide +kernel
theorem dX8_become_102 : decode cX8_become 102 = .ok (.iconst 0, 1) := by decide +kernel
theorem dX8_become_103 : decode cX8_become 103 = .ok (.aload_n 0, 1) := by decide +kernel
theorem dX8_become_104 : decode cX8_become 104 = .ok (.getfield 20, 3) := by decide +kernel
theorem dX8_become_107 : decode cX8_become 107 = .ok (.iload_n 2, 1) := by decide +kernel
theorem dX8_become_108 : decode cX8_become 108 = .ok (.aaload, 1) := by decide +kernel
theorem dX8_become_109 : decode cX8_become 109 = .ok (.iconst 0, 1) := by decide +kernel
theorem dX8_become_110 : decode cX8_become 110 = .ok (.bipush 8, 2) := by decide +kernel
theorem dX8_become_112 : decode cX8_become 112 = .ok (.invokestatic 52, 3) := by decide +kernel
theorem dX8_become_115 : decode cX8_become 115 = .ok (.aload_n 1, 1) := by decide +kernel
theorem dX8_become_116 : decode cX8_become 116 = .ok (.getfield 23, 3) := by decide +kernel
theorem dX8_become_119 : decode cX8_become 119 = .ok (.iload_n 2, 1) := by decide +kernel
theorem dX8_become_120 : decode cX8_become 120 = .ok (.aaload, 1) := by decide +kernel
theorem dX8_become_121 : decode cX8_become 121 = .ok (.iconst 0, 1) := by decide +kernel
theorem dX8_become_122 : decode cX8_become 122 = .ok (.aload_n 0, 1) := by decide +kernel
theorem dX8_become_123 : decode cX8_become 123 = .ok (.getfield 23, 3) := by decide +kernel
theorem dX8_become_126 : decode cX8_become 126 = .ok (.iload_n 2, 1) := by decide +kernel
theorem dX8_become_127 : decode cX8_become 127 = .ok (.aaload, 1) := by decide +kernel
theorem dX8_become_128 : decode cX8_become 128 = .ok (.iconst 0, 1) := by decide +kernel
theorem dX8_become_129 : decode cX8_become 129 = .ok (.bipush 8, 2) := by decide +kernel
theorem dX8_become_131 : decode cX8_become 131 = .ok (.invokestatic 52, 3) := by decide +kernel
theorem dX8_become_134 : decode cX8_become 134 = .ok (.iinc 2 1, 3) := by decide +kernel
theorem dX8_become_137 : decode cX8_become 137 = .ok (.goto (-65), 3) := by decide +kernel
theorem dX8_become_140 : decode cX8_become 140 = .ok (.iconst 0, 1) := by decide +kernel
theorem dX8_become_141 : decode cX8_become 141 = .ok (.istore_n 2, 1) := by decide +kernel
theorem dX8_become_142 : decode cX8_become 142 = .ok (.iload_n 2, 1) := by decide +kernel
theorem dX8_become_143 : decode cX8_become 143 = .ok (.iconst 5, 1) := by decide +kernel
theorem dX8_become_144 : decode cX8_become 144 = .ok (.if_icmp .ge 28, 3) := by decide +kernel
theorem dX8_become_147 : decode cX8_become 147 = .ok (.aload_n 1, 1) := by decide +kernel
theorem dX8_become_148 : decode cX8_become 148 = .ok (.getfield 26, 3) := by decide +kernel
theorem dX8_become_151 : decode cX8_become 151 = .ok (.iload_n 2, 1) := by decide +kernel
theorem dX8_become_152 : decode cX8_become 152 = .ok (.aaload, 1) := by decide +kernel
theorem dX8_become_153 : decode cX8_become 153 = .ok (.iconst 0, 1) := by decide +kernel
theorem dX8_become_154 : decode cX8_become 154 = .ok (.aload_n 0, 1) := by decide +kernel
theorem dX8_become_155 : decode cX8_become 155 = .ok (.getfield 26, 3) := by decide +kernel
theorem dX8_become_158 : decode cX8_become 158 = .ok (.iload_n 2, 1) := by decide +kernel
theorem dX8_become_159 : decode cX8_become 159 = .ok (.aaload, 1) := by decide +kernel
theorem dX8_become_160 : decode cX8_become 160 = .ok (.iconst 0, 1) := by decide +kernel
theorem dX8_become_161 : decode cX8_become 161 = .ok (.bipush 60, 2) := by decide +kernel
theorem dX8_become_163 : decode cX8_become 163 = .ok (.invokestatic 52, 3) := by decide +kernel
theorem dX8_become_166 : decode cX8_become 166 = .ok (.iinc 2 1, 3) := by decide +kernel
theorem dX8_become_169 : decode cX8_become 169 = .ok (.goto (-27), 3) := by decide +kernel
theorem dX8_become_172 : decode cX8_become 172 = .ok (.return_, 1) := by decide +kernel
theorem dX8_layGround_0 : decode cX8_layGround 0 = .ok (.aload_n 0, 1) := by decide +kernel
theorem dX8_layGround_1 : decode cX8_layGround 1 = .ok (.iconst 0, 1) := by decide +kernel
theorem dX8_layGround_2 : decode cX8_layGround 2 = .ok (.putfield 29, 3) := by decide +kernel
theorem dX8_layGround_5 : decode cX8_layGround 5 = .ok (.aload_n 0, 1) := by decide +kernel
theorem dX8_layGround_6 : decode cX8_layGround 6 = .ok (.getfield 9, 3) := by decide +kernel
theorem dX8_layGround_9 : decode cX8_layGround 9 = .ok (.iconst 0, 1) := by decide +kernel
theorem dX8_layGround_10 : decode cX8_layGround 10 = .ok (.aload_n 1, 1) := by decide +kernel
theorem dX8_layGround_11 : decode cX8_layGround 11 = .ok (.getfield 58, 3) := by decide +kernel
theorem dX8_layGround_14 : decode cX8_layGround 14 = .ok (.iconst 0, 1) := by decide +kernel
theorem dX8_layGround_15 : decode cX8_layGround 15 = .ok (.iaload, 1) := by decide +kernel
theorem dX8_layGround_16 : decode cX8_layGround 16 = .ok (.iastore, 1) := by decide +kernel
theorem dX8_layGround_17 : decode cX8_layGround 17 = .ok (.aload_n 0, 1) := by decide +kernel
theorem dX8_layGround_18 : decode cX8_layGround 18 = .ok (.getfield 9, 3) := by decide +kernel
theorem dX8_layGround_21 : decode cX8_layGround 21 = .ok (.iconst 1, 1) := by decide +kernel
theorem dX8_layGround_22 : decode cX8_layGround 22 = .ok (.aload_n 1, 1) := by decide +kernel
theorem dX8_layGround_23 : decode cX8_layGround 23 = .ok (.getfield 58, 3) := by decide +kernel
theorem dX8_layGround_26 : decode cX8_layGround 26 = .ok (.iconst 0, 1) := by decide +kernel
theorem dX8_layGround_27 : decode cX8_layGround 27 = .ok (.iaload, 1) := by decide +kernel
theorem dX8_layGround_28 : decode cX8_layGround 28 = .ok (.iastore, 1) := by decide +kernel
theorem dX8_layGround_29 : decode cX8_layGround 29 = .ok (.return_, 1) := by decide +kernel
theorem dX8_beginPull_0 : decode cX8_beginPull 0 = .ok (.aload_n 0, 1) := by decide +kernel
theorem dX8_beginPull_1 : decode cX8_beginPull 1 = .ok (.iconst 1, 1) := by decide +kernel
theorem dX8_beginPull_2 : decode cX8_beginPull 2 = .ok (.putfield 29, 3) := by decide +kernel
theorem dX8_beginPull_5 : decode cX8_beginPull 5 = .ok (.aload_n 0, 1) := by decide +kernel
theorem dX8_beginPull_6 : decode cX8_beginPull 6 = .ok (.iload_n 2, 1) := by decide +kernel
theorem dX8_beginPull_7 : decode cX8_beginPull 7 = .ok (.putfield 33, 3) := by decide +kernel
theorem dX8_beginPull_10 : decode cX8_beginPull 10 = .ok (.aload_n 0, 1) := by decide +kernel
theorem dX8_beginPull_11 : decode cX8_beginPull 11 = .ok (.iconst 0, 1) := by decide +kernel
theorem dX8_beginPull_12 : decode cX8_beginPull 12 = .ok (.putfield 37, 3) := by decide +kernel
theorem dX8_beginPull_15 : decode cX8_beginPull 15 = .ok (.aload_n 0, 1) := by decide +kernel
theorem dX8_beginPull_16 : decode cX8_beginPull 16 = .ok (.iconst 0, 1) := by decide +kernel
theorem dX8_beginPull_17 : decode cX8_beginPull 17 = .ok (.putfield 40, 3) := by decide +kernel
theorem dX8_beginPull_20 : decode cX8_beginPull 20 = .ok (.aload_n 0, 1) := by decide +kernel
theorem dX8_beginPull_21 : decode cX8_beginPull 21 = .ok (.ldc 63, 2) := by decide +kernel
theorem dX8_beginPull_23 : decode cX8_beginPull 23 = .ok (.putfield 43, 3) := by decide +kernel
theorem dX8_beginPull_26 : decode cX8_beginPull 26 = .ok (.aload_n 0, 1) := by decide +kernel
theorem dX8_beginPull_27 : decode cX8_beginPull 27 = .ok (.ldc 63, 2) := by decide +kernel
theorem dX8_beginPull_29 : decode cX8_beginPull 29 = .ok (.putfield 46, 3) := by decide +kernel
theorem dX8_beginPull_32 : decode cX8_beginPull 32 = .ok (.aload_n 0, 1) := by decide +kernel
theorem dX8_beginPull_33 : decode cX8_beginPull 33 = .ok (.ldc 63, 2) := by decide +kernel
theorem dX8_beginPull_35 : decode cX8_beginPull 35 = .ok (.putfield 49, 3) := by decide +kernel
theorem dX8_beginPull_38 : decode cX8_beginPull 38 = .ok (.iconst 0, 1) := by decide +kernel
theorem dX8_beginPull_39 : decode cX8_beginPull 39 = .ok (.istore_n 3, 1) := by decide +kernel
theorem dX8_beginPull_40 : decode cX8_beginPull 40 = .ok (.iload_n 3, 1) := by decide +kernel
theorem dX8_beginPull_41 : decode cX8_beginPull 41 = .ok (.iconst 2, 1) := by decide +kernel
theorem dX8_beginPull_42 : decode cX8_beginPull 42 = .ok (.if_icmp .ge 55, 3) := by decide +kernel
theorem dX8_beginPull_45 : decode cX8_beginPull 45 = .ok (.iconst 0, 1) := by decide +kernel
theorem dX8_beginPull_46 : decode cX8_beginPull 46 = .ok (.istore 4, 2) := by decide +kernel
theorem dX8_beginPull_48 : decode cX8_beginPull 48 = .ok (.iload 4, 2) := by decide +kernel
theorem dX8_beginPull_50 : decode cX8_beginPull 50 = .ok (.aload_n 1, 1) := by decide +kernel
theorem dX8_beginPull_51 : decode cX8_beginPull 51 = .ok (.getfield 64, 3) := by decide +kernel
theorem dX8_beginPull_54 : decode cX8_beginPull 54 = .ok (.iload_n 3, 1) := by decide +kernel
theorem dX8_beginPull_55 : decode cX8_beginPull 55 = .ok (.aaload, 1) := by decide +kernel
theorem dX8_beginPull_56 : decode cX8_beginPull 56 = .ok (.getfield 68, 3) := by decide +kernel
theorem dX8_beginPull_59 : decode cX8_beginPull 59 = .ok (.if_icmp .ge 32, 3) := by decide +kernel
theorem dX8_beginPull_62 : decode cX8_beginPull 62 = .ok (.aload_n 0, 1) := by decide +kernel
theorem dX8_beginPull_63 : decode cX8_beginPull 63 = .ok (.getfield 17, 3) := by decide +kernel
theorem dX8_beginPull_66 : decode cX8_beginPull 66 = .ok (.iload_n 3, 1) := by decide +kernel
theorem dX8_beginPull_67 : decode cX8_beginPull 67 = .ok (.aaload, 1) := by decide +kernel
theorem dX8_beginPull_68 : decode cX8_beginPull 68 = .ok (.iload 4, 2) := by decide +kernel
theorem dX8_beginPull_70 : decode cX8_beginPull 70 = .ok (.aload_n 1, 1) := by decide +kernel
theorem dX8_beginPull_71 : decode cX8_beginPull 71 = .ok (.getfield 64, 3) := by decide +kernel
theorem dX8_beginPull_74 : decode cX8_beginPull 74 = .ok (.iload_n 3, 1) := by decide +kernel
theorem dX8_beginPull_75 : decode cX8_beginPull 75 = .ok (.aaload, 1) := by decide +kernel
theorem dX8_beginPull_76 : decode cX8_beginPull 76 = .ok (.getfield 73, 3) := by decide +kernel
theorem dX8_beginPull_79 : decode cX8_beginPull 79 = .ok (.iload 4, 2) := by decide +kernel
theorem dX8_beginPull_81 : decode cX8_beginPull 81 = .ok (.aaload, 1) := by decide +kernel
theorem dX8_beginPull_82 : decode cX8_beginPull 82 = .ok (.iconst 3, 1) := by decide +kernel
theorem dX8_beginPull_83 : decode cX8_beginPull 83 = .ok (.iaload, 1) := by decide +kernel
theorem dX8_beginPull_84 : decode cX8_beginPull 84 = .ok (.iastore, 1) := by decide +kernel
theorem dX8_beginPull_85 : decode cX8_beginPull 85 = .ok (.iinc 4 1, 3) := by decide +kernel
theorem dX8_beginPull_88 : decode cX8_beginPull 88 = .ok (.goto (-40), 3) := by decide +kernel
theorem dX8_beginPull_91 : decode cX8_beginPull 91 = .ok (.iinc 3 1, 3) := by decide +kernel
theorem dX8_beginPull_94 : decode cX8_beginPull 94 = .ok (.goto (-54), 3) := by decide +kernel
theorem dX8_beginPull_97 : decode cX8_beginPull 97 = .ok (.return_, 1) := by decide +kernel
theorem dX8_goByRules_0 : decode cX8_goByRules 0 = .ok (.iconst 0, 1) := by decide +kernel
theorem dX8_goByRules_1 : decode cX8_goByRules 1 = .ok (.istore_n 3, 1) := by decide +kernel
theorem dX8_goByRules_2 : decode cX8_goByRules 2 = .ok (.iload_n 3, 1) := by decide +kernel
theorem dX8_goByRules_3 : decode cX8_goByRules 3 = .ok (.iload_n 2, 1) := by decide +kernel
theorem dX8_goByRules_4 : decode cX8_goByRules 4 = .ok (.if_icmp .ge 35, 3) := by decide +kernel
theorem dX8_goByRules_7 : decode cX8_goByRules 7 = .ok (.aload_n 0, 1) := by decide +kernel
theorem dX8_goByRules_8 : decode cX8_goByRules 8 = .ok (.getfield 43, 3) := by decide +kernel
theorem dX8_goByRules_11 : decode cX8_goByRules 11 = .ok (.ldc 63, 2) := by decide +kernel
theorem dX8_goByRules_13 : decode cX8_goByRules 13 = .ok (.if_icmp .ne 26, 3) := by decide +kernel
theorem dX8_goByRules_16 : decode cX8_goByRules 16 = .ok (.aload_n 0, 1) := by decide +kernel
theorem dX8_goByRules_17 : decode cX8_goByRules 17 = .ok (.aload_n 1, 1) := by decide +kernel
theorem dX8_goByRules_18 : decode cX8_goByRules 18 = .ok (.aload_n 0, 1) := by decide +kernel
theorem dX8_goByRules_19 : decode cX8_goByRules 19 = .ok (.aload_n 1, 1) := by decide +kernel
theorem dX8_goByRules_20 : decode cX8_goByRules 20 = .ok (.iconst 0, 1) := by decide +kernel
theorem dX8_goByRules_21 : decode cX8_goByRules 21 = .ok (.invokevirtual 76, 3) := by decide +kernel
theorem dX8_goByRules_24 : decode cX8_goByRules 24 = .ok (.aload_n 0, 1) := by decide +kernel
theorem dX8_goByRules_25 : decode cX8_goByRules 25 = .ok (.aload_n 1, 1) := by decide +kernel
theorem dX8_goByRules_26 : decode cX8_goByRules 26 = .ok (.iconst 1, 1) := by decide +kernel
theorem dX8_goByRules_27 : decode cX8_goByRules 27 = .ok (.invokevirtual 76, 3) := by decide +kernel
theorem dX8_goByRules_30 : decode cX8_goByRules 30 = .ok (.invokevirtual 80, 3) := by decide +kernel
theorem dX8_goByRules_33 : decode cX8_goByRules 33 = .ok (.iinc 3 1, 3) := by decide +kernel
theorem dX8_goByRules_36 : decode cX8_goByRules 36 = .ok (.goto (-34), 3) := by decide +kernel
theorem dX8_goByRules_39 : decode cX8_goByRules 39 = .ok (.iload_n 3, 1) := by decide +kernel
theorem dX8_goByRules_40 : decode cX8_goByRules 40 = .ok (.ireturn, 1) := by decide +kernel
theorem dX8_goAsTold_0 : decode cX8_goAsTold 0 = .ok (.iconst 0, 1) := by decide +kernel
theorem dX8_goAsTold_1 : decode cX8_goAsTold 1 = .ok (.istore 5, 2) := by decide +kernel
theorem dX8_goAsTold_3 : decode cX8_goAsTold 3 = .ok (.iload 5, 2) := by decide +kernel
theorem dX8_goAsTold_5 : decode cX8_goAsTold 5 = .ok (.iload 4, 2) := by decide +kernel
theorem dX8_goAsTold_7 : decode cX8_goAsTold 7 = .ok (.if_icmp .ge 47, 3) := by decide +kernel
theorem dX8_goAsTold_10 : decode cX8_goAsTold 10 = .ok (.aload_n 0, 1) := by decide +kernel
theorem dX8_goAsTold_11 : decode cX8_goAsTold 11 = .ok (.getfield 43, 3) := by decide +kernel
theorem dX8_goAsTold_14 : decode cX8_goAsTold 14 = .ok (.ldc 63, 2) := by decide +kernel
theorem dX8_goAsTold_16 : decode cX8_goAsTold 16 = .ok (.if_icmp .ne 38, 3) := by decide +kernel
theorem dX8_goAsTold_19 : decode cX8_goAsTold 19 = .ok (.aload_n 0, 1) := by decide +kernel
theorem dX8_goAsTold_20 : decode cX8_goAsTold 20 = .ok (.aload_n 1, 1) := by decide +kernel
theorem dX8_goAsTold_21 : decode cX8_goAsTold 21 = .ok (.aload_n 2, 1) := by decide +kernel
theorem dX8_goAsTold_22 : decode cX8_goAsTold 22 = .ok (.getfield 84, 3) := by decide +kernel
theorem dX8_goAsTold_25 : decode cX8_goAsTold 25 = .ok (.iload_n 3, 1) := by decide +kernel
theorem dX8_goAsTold_26 : decode cX8_goAsTold 26 = .ok (.iconst 2, 1) := by decide +kernel
theorem dX8_goAsTold_27 : decode cX8_goAsTold 27 = .ok (.iload 5, 2) := by decide +kernel
theorem dX8_goAsTold_29 : decode cX8_goAsTold 29 = .ok (.imul, 1) := by decide +kernel
theorem dX8_goAsTold_30 : decode cX8_goAsTold 30 = .ok (.iadd, 1) := by decide +kernel
theorem dX8_goAsTold_31 : decode cX8_goAsTold 31 = .ok (.iaload, 1) := by decide +kernel
theorem dX8_goAsTold_32 : decode cX8_goAsTold 32 = .ok (.aload_n 2, 1) := by decide +kernel
theorem dX8_goAsTold_33 : decode cX8_goAsTold 33 = .ok (.getfield 84, 3) := by decide +kernel
theorem dX8_goAsTold_36 : decode cX8_goAsTold 36 = .ok (.iload_n 3, 1) := by decide +kernel
theorem dX8_goAsTold_37 : decode cX8_goAsTold 37 = .ok (.iconst 2, 1) := by decide +kernel
theorem dX8_goAsTold_38 : decode cX8_goAsTold 38 = .ok (.iload 5, 2) := by decide +kernel
theorem dX8_goAsTold_40 : decode cX8_goAsTold 40 = .ok (.imul, 1) := by decide +kernel
theorem dX8_goAsTold_41 : decode cX8_goAsTold 41 = .ok (.iadd, 1) := by decide +kernel
theorem dX8_goAsTold_42 : decode cX8_goAsTold 42 = .ok (.iconst 1, 1) := by decide +kernel
theorem dX8_goAsTold_43 : decode cX8_goAsTold 43 = .ok (.iadd, 1) := by decide +kernel
theorem dX8_goAsTold_44 : decode cX8_goAsTold 44 = .ok (.iaload, 1) := by decide +kernel
theorem dX8_goAsTold_45 : decode cX8_goAsTold 45 = .ok (.invokevirtual 80, 3) := by decide +kernel
theorem dX8_goAsTold_48 : decode cX8_goAsTold 48 = .ok (.iinc 5 1, 3) := by decide +kernel
theorem dX8_goAsTold_51 : decode cX8_goAsTold 51 = .ok (.goto (-48), 3) := by decide +kernel
theorem dX8_goAsTold_54 : decode cX8_goAsTold 54 = .ok (.iload 5, 2) := by decide +kernel
theorem dX8_goAsTold_56 : decode cX8_goAsTold 56 = .ok (.ireturn, 1) := by decide +kernel
theorem dX8_orderByRules_0 : decode cX8_orderByRules 0 = .ok (.aload_n 1, 1) := by decide +kernel
theorem dX8_orderByRules_1 : decode cX8_orderByRules 1 = .ok (.getfield 64, 3) := by decide +kernel
theorem dX8_orderByRules_4 : decode cX8_orderByRules 4 = .ok (.iload_n 2, 1) := by decide +kernel
theorem dX8_orderByRules_5 : decode cX8_orderByRules 5 = .ok (.aaload, 1) := by decide +kernel
theorem dX8_orderByRules_6 : decode cX8_orderByRules 6 = .ok (.astore_n 3, 1) := by decide +kernel
theorem dX8_orderByRules_7 : decode cX8_orderByRules 7 = .ok (.iconst 0, 1) := by decide +kernel
theorem dX8_orderByRules_8 : decode cX8_orderByRules 8 = .ok (.istore 4, 2) := by decide +kernel
theorem dX8_orderByRules_10 : decode cX8_orderByRules 10 = .ok (.iload 4, 2) := by decide +kernel
theorem dX8_orderByRules_12 : decode cX8_orderByRules 12 = .ok (.aload_n 3, 1) := by decide +kernel
theorem dX8_orderByRules_13 : decode cX8_orderByRules 13 = .ok (.getfield 89, 3) := by decide +kernel
theorem dX8_orderByRules_16 : decode cX8_orderByRules 16 = .ok (.if_icmp .ge 64, 3) := by decide +kernel
theorem dX8_orderByRules_19 : decode cX8_orderByRules 19 = .ok (.aload_n 3, 1) := by decide +kernel
theorem dX8_orderByRules_20 : decode cX8_orderByRules 20 = .ok (.getfield 92, 3) := by decide +kernel
theorem dX8_orderByRules_23 : decode cX8_orderByRules 23 = .ok (.iload 4, 2) := by decide +kernel
theorem dX8_orderByRules_25 : decode cX8_orderByRules 25 = .ok (.aaload, 1) := by decide +kernel
theorem dX8_orderByRules_26 : decode cX8_orderByRules 26 = .ok (.astore 5, 2) := by decide +kernel
theorem dX8_orderByRules_28 : decode cX8_orderByRules 28 = .ok (.aload_n 0, 1) := by decide +kernel
theorem dX8_orderByRules_29 : decode cX8_orderByRules 29 = .ok (.aload_n 1, 1) := by decide +kernel
theorem dX8_orderByRules_30 : decode cX8_orderByRules 30 = .ok (.iload_n 2, 1) := by decide +kernel
theorem dX8_orderByRules_31 : decode cX8_orderByRules 31 = .ok (.aload 5, 2) := by decide +kernel
theorem dX8_orderByRules_33 : decode cX8_orderByRules 33 = .ok (.iconst 0, 1) := by decide +kernel
theorem dX8_orderByRules_34 : decode cX8_orderByRules 34 = .ok (.iaload, 1) := by decide +kernel
theorem dX8_orderByRules_35 : decode cX8_orderByRules 35 = .ok (.invokevirtual 95, 3) := by decide +kernel
theorem dX8_orderByRules_38 : decode cX8_orderByRules 38 = .ok (.istore 6, 2) := by decide +kernel
theorem dX8_orderByRules_40 : decode cX8_orderByRules 40 = .ok (.aload 5, 2) := by decide +kernel
theorem dX8_orderByRules_42 : decode cX8_orderByRules 42 = .ok (.iconst 1, 1) := by decide +kernel
theorem dX8_orderByRules_43 : decode cX8_orderByRules 43 = .ok (.iaload, 1) := by decide +kernel
theorem dX8_orderByRules_44 : decode cX8_orderByRules 44 = .ok (.iconst 1, 1) := by decide +kernel
theorem dX8_orderByRules_45 : decode cX8_orderByRules 45 = .ok (.if_icmp .ne 15, 3) := by decide +kernel
theorem dX8_orderByRules_48 : decode cX8_orderByRules 48 = .ok (.iload 6, 2) := by decide +kernel
theorem dX8_orderByRules_50 : decode cX8_orderByRules 50 = .ok (.aload 5, 2) := by decide +kernel
theorem dX8_orderByRules_52 : decode cX8_orderByRules 52 = .ok (.iconst 2, 1) := by decide +kernel
theorem dX8_orderByRules_53 : decode cX8_orderByRules 53 = .ok (.iaload, 1) := by decide +kernel
theorem dX8_orderByRules_54 : decode cX8_orderByRules 54 = .ok (.if_icmp .le 20, 3) := by decide +kernel
theorem dX8_orderByRules_57 : decode cX8_orderByRules 57 = .ok (.goto 12, 3) := by decide +kernel
theorem dX8_orderByRules_60 : decode cX8_orderByRules 60 = .ok (.iload 6, 2) := by decide +kernel
theorem dX8_orderByRules_62 : decode cX8_orderByRules 62 = .ok (.aload 5, 2) := by decide +kernel
theorem dX8_orderByRules_64 : decode cX8_orderByRules 64 = .ok (.iconst 2, 1) := by decide +kernel
theorem dX8_orderByRules_65 : decode cX8_orderByRules 65 = .ok (.iaload, 1) := by decide +kernel
theorem dX8_orderByRules_66 : decode cX8_orderByRules 66 = .ok (.if_icmp .ge 8, 3) := by decide +kernel
theorem dX8_orderByRules_69 : decode cX8_orderByRules 69 = .ok (.aload 5, 2) := by decide +kernel
theorem dX8_orderByRules_71 : decode cX8_orderByRules 71 = .ok (.iconst 3, 1) := by decide +kernel
theorem dX8_orderByRules_72 : decode cX8_orderByRules 72 = .ok (.iaload, 1) := by decide +kernel
theorem dX8_orderByRules_73 : decode cX8_orderByRules 73 = .ok (.ireturn, 1) := by decide +kernel
theorem dX8_orderByRules_74 : decode cX8_orderByRules 74 = .ok (.iinc 4 1, 3) := by decide +kernel
theorem dX8_orderByRules_77 : decode cX8_orderByRules 77 = .ok (.goto (-67), 3) := by decide +kernel
theorem dX8_orderByRules_80 : decode cX8_orderByRules 80 = .ok (.iconst 0, 1) := by decide +kernel
theorem dX8_orderByRules_81 : decode cX8_orderByRules 81 = .ok (.ireturn, 1) := by decide +kernel
theorem dX8_feltBy_0 : decode cX8_feltBy 0 = .ok (.iload_n 3, 1) := by decide +kernel
theorem dX8_feltBy_1 : decode cX8_feltBy 1 = .ok (.tableswitch 60 0 2 #[27, 34, 43], 27) := by decide +kernel
theorem dX8_feltBy_28 : decode cX8_feltBy 28 = .ok (.aload_n 0, 1) := by decide +kernel
theorem dX8_feltBy_29 : decode cX8_feltBy 29 = .ok (.aload_n 1, 1) := by decide +kernel
theorem dX8_feltBy_30 : decode cX8_feltBy 30 = .ok (.iload_n 2, 1) := by decide +kernel
theorem dX8_feltBy_31 : decode cX8_feltBy 31 = .ok (.invokevirtual 99, 3) := by decide +kernel
theorem dX8_feltBy_34 : decode cX8_feltBy 34 = .ok (.ireturn, 1) := by decide +kernel
theorem dX8_feltBy_35 : decode cX8_feltBy 35 = .ok (.aload_n 0, 1) := by decide +kernel
theorem dX8_feltBy_36 : decode cX8_feltBy 36 = .ok (.aload_n 1, 1) := by decide +kernel
theorem dX8_feltBy_37 : decode cX8_feltBy 37 = .ok (.iconst 1, 1) := by decide +kernel
theorem dX8_feltBy_38 : decode cX8_feltBy 38 = .ok (.iload_n 2, 1) := by decide +kernel
theorem dX8_feltBy_39 : decode cX8_feltBy 39 = .ok (.isub, 1) := by decide +kernel
theorem dX8_feltBy_40 : decode cX8_feltBy 40 = .ok (.invokevirtual 99, 3) := by decide +kernel
theorem dX8_feltBy_43 : decode cX8_feltBy 43 = .ok (.ireturn, 1) := by decide +kernel
theorem dX8_feltBy_44 : decode cX8_feltBy 44 = .ok (.iload_n 2, 1) := by decide +kernel
theorem dX8_feltBy_45 : decode cX8_feltBy 45 = .ok (.ifCond .ne 10, 3) := by decide +kernel
theorem dX8_feltBy_48 : decode cX8_feltBy 48 = .ok (.aload_n 0, 1) := by decide +kernel
theorem dX8_feltBy_49 : decode cX8_feltBy 49 = .ok (.getfield 37, 3) := by decide +kernel
theorem dX8_feltBy_52 : decode cX8_feltBy 52 = .ok (.goto 8, 3) := by decide +kernel
theorem dX8_feltBy_55 : decode cX8_feltBy 55 = .ok (.aload_n 0, 1) := by decide +kernel
theorem dX8_feltBy_56 : decode cX8_feltBy 56 = .ok (.getfield 37, 3) := by decide +kernel
theorem dX8_feltBy_59 : decode cX8_feltBy 59 = .ok (.ineg, 1) := by decide +kernel
theorem dX8_feltBy_60 : decode cX8_feltBy 60 = .ok (.ireturn, 1) := by decide +kernel
theorem dX8_feltBy_61 : decode cX8_feltBy 61 = .ok (.aload_n 0, 1) := by decide +kernel
theorem dX8_feltBy_62 : decode cX8_feltBy 62 = .ok (.getfield 40, 3) := by decide +kernel
theorem dX8_feltBy_65 : decode cX8_feltBy 65 = .ok (.ireturn, 1) := by decide +kernel
theorem dX8_meanBreath_0 : decode cX8_meanBreath 0 = .ok (.aload_n 1, 1) := by decide +kernel
theorem dX8_meanBreath_1 : decode cX8_meanBreath 1 = .ok (.getfield 64, 3) := by decide +kernel
theorem dX8_meanBreath_4 : decode cX8_meanBreath 4 = .ok (.iload_n 2, 1) := by decide +kernel
theorem dX8_meanBreath_5 : decode cX8_meanBreath 5 = .ok (.aaload, 1) := by decide +kernel
theorem dX8_meanBreath_6 : decode cX8_meanBreath 6 = .ok (.getfield 68, 3) := by decide +kernel
theorem dX8_meanBreath_9 : decode cX8_meanBreath 9 = .ok (.istore_n 3, 1) := by decide +kernel
theorem dX8_meanBreath_10 : decode cX8_meanBreath 10 = .ok (.iconst 0, 1) := by decide +kernel
theorem dX8_meanBreath_11 : decode cX8_meanBreath 11 = .ok (.istore 4, 2) := by decide +kernel
theorem dX8_meanBreath_13 : decode cX8_meanBreath 13 = .ok (.iconst 0, 1) := by decide +kernel
theorem dX8_meanBreath_14 : decode cX8_meanBreath 14 = .ok (.istore 5, 2) := by decide +kernel
theorem dX8_meanBreath_16 : decode cX8_meanBreath 16 = .ok (.iload 5, 2) := by decide +kernel
theorem dX8_meanBreath_18 : decode cX8_meanBreath 18 = .ok (.iload_n 3, 1) := by decide +kernel
theorem dX8_meanBreath_19 : decode cX8_meanBreath 19 = .ok (.if_icmp .ge 23, 3) := by decide +kernel
theorem dX8_meanBreath_22 : decode cX8_meanBreath 22 = .ok (.iload 4, 2) := by decide +kernel
theorem dX8_meanBreath_24 : decode cX8_meanBreath 24 = .ok (.aload_n 0, 1) := by decide +kernel
theorem dX8_meanBreath_25 : decode cX8_meanBreath 25 = .ok (.getfield 17, 3) := by decide +kernel
theorem dX8_meanBreath_28 : decode cX8_meanBreath 28 = .ok (.iload_n 2, 1) := by decide +kernel
theorem dX8_meanBreath_29 : decode cX8_meanBreath 29 = .ok (.aaload, 1) := by decide +kernel
theorem dX8_meanBreath_30 : decode cX8_meanBreath 30 = .ok (.iload 5, 2) := by decide +kernel
theorem dX8_meanBreath_32 : decode cX8_meanBreath 32 = .ok (.iaload, 1) := by decide +kernel
theorem dX8_meanBreath_33 : decode cX8_meanBreath 33 = .ok (.iadd, 1) := by decide +kernel
theorem dX8_meanBreath_34 : decode cX8_meanBreath 34 = .ok (.istore 4, 2) := by decide +kernel
theorem dX8_meanBreath_36 : decode cX8_meanBreath 36 = .ok (.iinc 5 1, 3) := by decide +kernel
theorem dX8_meanBreath_39 : decode cX8_meanBreath 39 = .ok (.goto (-23), 3) := by decide +kernel
theorem dX8_meanBreath_42 : decode cX8_meanBreath 42 = .ok (.iload_n 3, 1) := by decide +kernel
theorem dX8_meanBreath_43 : decode cX8_meanBreath 43 = .ok (.ifCond .le 10, 3) := by decide +kernel
theorem dX8_meanBreath_46 : decode cX8_meanBreath 46 = .ok (.iload 4, 2) := by decide +kernel
theorem dX8_meanBreath_48 : decode cX8_meanBreath 48 = .ok (.iload_n 3, 1) := by decide +kernel
theorem dX8_meanBreath_49 : decode cX8_meanBreath 49 = .ok (.idiv, 1) := by decide +kernel
theorem dX8_meanBreath_50 : decode cX8_meanBreath 50 = .ok (.goto 4, 3) := by decide +kernel
theorem dX8_meanBreath_53 : decode cX8_meanBreath 53 = .ok (.iconst 0, 1) := by decide +kernel
theorem dX8_meanBreath_54 : decode cX8_meanBreath 54 = .ok (.ireturn, 1) := by decide +kernel
theorem dX8_goTenth_0 : decode cX8_goTenth 0 = .ok (.aload_n 0, 1) := by decide +kernel
theorem dX8_goTenth_1 : decode cX8_goTenth 1 = .ok (.getfield 40, 3) := by decide +kernel
theorem dX8_goTenth_4 : decode cX8_goTenth 4 = .ok (.bipush 60, 2) := by decide +kernel
theorem dX8_goTenth_6 : decode cX8_goTenth 6 = .ok (.irem, 1) := by decide +kernel
theorem dX8_goTenth_7 : decode cX8_goTenth 7 = .ok (.istore 4, 2) := by decide +kernel
theorem dX8_goTenth_9 : decode cX8_goTenth 9 = .ok (.aload_n 0, 1) := by decide +kernel
theorem dX8_goTenth_10 : decode cX8_goTenth 10 = .ok (.getfield 26, 3) := by decide +kernel
theorem dX8_goTenth_13 : decode cX8_goTenth 13 = .ok (.iconst 0, 1) := by decide +kernel
theorem dX8_goTenth_14 : decode cX8_goTenth 14 = .ok (.aaload, 1) := by decide +kernel
theorem dX8_goTenth_15 : decode cX8_goTenth 15 = .ok (.iload 4, 2) := by decide +kernel
theorem dX8_goTenth_17 : decode cX8_goTenth 17 = .ok (.iload_n 2, 1) := by decide +kernel
theorem dX8_goTenth_18 : decode cX8_goTenth 18 = .ok (.iastore, 1) := by decide +kernel
theorem dX8_goTenth_19 : decode cX8_goTenth 19 = .ok (.aload_n 0, 1) := by decide +kernel
theorem dX8_goTenth_20 : decode cX8_goTenth 20 = .ok (.getfield 26, 3) := by decide +kernel
theorem dX8_goTenth_23 : decode cX8_goTenth 23 = .ok (.iconst 1, 1) := by decide +kernel
theorem dX8_goTenth_24 : decode cX8_goTenth 24 = .ok (.aaload, 1) := by decide +kernel
theorem dX8_goTenth_25 : decode cX8_goTenth 25 = .ok (.iload 4, 2) := by decide +kernel
theorem dX8_goTenth_27 : decode cX8_goTenth 27 = .ok (.iload_n 3, 1) := by decide +kernel
theorem dX8_goTenth_28 : decode cX8_goTenth 28 = .ok (.iastore, 1) := by decide +kernel
theorem dX8_goTenth_29 : decode cX8_goTenth 29 = .ok (.aload_n 0, 1) := by decide +kernel
theorem dX8_goTenth_30 : decode cX8_goTenth 30 = .ok (.aload_n 1, 1) := by decide +kernel
theorem dX8_goTenth_31 : decode cX8_goTenth 31 = .ok (.iconst 0, 1) := by decide +kernel
theorem dX8_goTenth_32 : decode cX8_goTenth 32 = .ok (.iload_n 3, 1) := by decide +kernel
theorem dX8_goTenth_33 : decode cX8_goTenth 33 = .ok (.iconst 1, 1) := by decide +kernel
theorem dX8_goTenth_34 : decode cX8_goTenth 34 = .ok (.if_icmp .ne 7, 3) := by decide +kernel
theorem dX8_goTenth_37 : decode cX8_goTenth 37 = .ok (.iconst 1, 1) := by decide +kernel
theorem dX8_goTenth_38 : decode cX8_goTenth 38 = .ok (.goto 4, 3) := by decide +kernel
theorem dX8_goTenth_41 : decode cX8_goTenth 41 = .ok (.iconst 0, 1) := by decide +kernel
theorem dX8_goTenth_42 : decode cX8_goTenth 42 = .ok (.invokevirtual 102, 3) := by decide +kernel
theorem dX8_goTenth_45 : decode cX8_goTenth 45 = .ok (.istore 5, 2) := by decide +kernel
theorem dX8_goTenth_47 : decode cX8_goTenth 47 = .ok (.aload_n 0, 1) := by decide +kernel
theorem dX8_goTenth_48 : decode cX8_goTenth 48 = .ok (.aload_n 1, 1) := by decide +kernel
theorem dX8_goTenth_49 : decode cX8_goTenth 49 = .ok (.iconst 1, 1) := by decide +kernel
theorem dX8_goTenth_50 : decode cX8_goTenth 50 = .ok (.iload_n 2, 1) := by decide +kernel
theorem dX8_goTenth_51 : decode cX8_goTenth 51 = .ok (.iconst 1, 1) := by decide +kernel
theorem dX8_goTenth_52 : decode cX8_goTenth 52 = .ok (.if_icmp .ne 7, 3) := by decide +kernel
theorem dX8_goTenth_55 : decode cX8_goTenth 55 = .ok (.iconst 1, 1) := by decide +kernel
theorem dX8_goTenth_56 : decode cX8_goTenth 56 = .ok (.goto 4, 3) := by decide +kernel
theorem dX8_goTenth_59 : decode cX8_goTenth 59 = .ok (.iconst 0, 1) := by decide +kernel
theorem dX8_goTenth_60 : decode cX8_goTenth 60 = .ok (.invokevirtual 102, 3) := by decide +kernel
theorem dX8_goTenth_63 : decode cX8_goTenth 63 = .ok (.istore 6, 2) := by decide +kernel
theorem dX8_goTenth_65 : decode cX8_goTenth 65 = .ok (.aload_n 0, 1) := by decide +kernel
theorem dX8_goTenth_66 : decode cX8_goTenth 66 = .ok (.aload_n 1, 1) := by decide +kernel
theorem dX8_goTenth_67 : decode cX8_goTenth 67 = .ok (.iconst 0, 1) := by decide +kernel
theorem dX8_goTenth_68 : decode cX8_goTenth 68 = .ok (.iload_n 2, 1) := by decide +kernel
theorem dX8_goTenth_69 : decode cX8_goTenth 69 = .ok (.invokevirtual 106, 3) := by decide +kernel
theorem dX8_goTenth_72 : decode cX8_goTenth 72 = .ok (.aload_n 0, 1) := by decide +kernel
theorem dX8_goTenth_73 : decode cX8_goTenth 73 = .ok (.aload_n 1, 1) := by decide +kernel
theorem dX8_goTenth_74 : decode cX8_goTenth 74 = .ok (.iconst 1, 1) := by decide +kernel
theorem dX8_goTenth_75 : decode cX8_goTenth 75 = .ok (.iload_n 3, 1) := by decide +kernel
theorem dX8_goTenth_76 : decode cX8_goTenth 76 = .ok (.invokevirtual 106, 3) := by decide +kernel
theorem dX8_goTenth_79 : decode cX8_goTenth 79 = .ok (.aload_n 0, 1) := by decide +kernel
theorem dX8_goTenth_80 : decode cX8_goTenth 80 = .ok (.dup, 1) := by decide +kernel
theorem dX8_goTenth_81 : decode cX8_goTenth 81 = .ok (.getfield 37, 3) := by decide +kernel
theorem dX8_goTenth_84 : decode cX8_goTenth 84 = .ok (.bipush (-3), 2) := by decide +kernel
theorem dX8_goTenth_86 : decode cX8_goTenth 86 = .ok (.iconst 3, 1) := by decide +kernel
theorem dX8_goTenth_87 : decode cX8_goTenth 87 = .ok (.iload 5, 2) := by decide +kernel
theorem dX8_goTenth_89 : decode cX8_goTenth 89 = .ok (.iload 6, 2) := by decide +kernel
theorem dX8_goTenth_91 : decode cX8_goTenth 91 = .ok (.isub, 1) := by decide +kernel
theorem dX8_goTenth_92 : decode cX8_goTenth 92 = .ok (.bipush 100, 2) := by decide +kernel
theorem dX8_goTenth_94 : decode cX8_goTenth 94 = .ok (.idiv, 1) := by decide +kernel
theorem dX8_goTenth_95 : decode cX8_goTenth 95 = .ok (.invokestatic 109, 3) := by decide +kernel
theorem dX8_goTenth_98 : decode cX8_goTenth 98 = .ok (.invokestatic 115, 3) := by decide +kernel
theorem dX8_goTenth_101 : decode cX8_goTenth 101 = .ok (.iadd, 1) := by decide +kernel
theorem dX8_goTenth_102 : decode cX8_goTenth 102 = .ok (.putfield 37, 3) := by decide +kernel
theorem dX8_goTenth_105 : decode cX8_goTenth 105 = .ok (.aload_n 0, 1) := by decide +kernel
theorem dX8_goTenth_106 : decode cX8_goTenth 106 = .ok (.getfield 26, 3) := by decide +kernel
theorem dX8_goTenth_109 : decode cX8_goTenth 109 = .ok (.iconst 2, 1) := by decide +kernel
theorem dX8_goTenth_110 : decode cX8_goTenth 110 = .ok (.aaload, 1) := by decide +kernel
theorem dX8_goTenth_111 : decode cX8_goTenth 111 = .ok (.iload 4, 2) := by decide +kernel
theorem dX8_goTenth_113 : decode cX8_goTenth 113 = .ok (.iload 5, 2) := by decide +kernel
theorem dX8_goTenth_115 : decode cX8_goTenth 115 = .ok (.iastore, 1) := by decide +kernel
theorem dX8_goTenth_116 : decode cX8_goTenth 116 = .ok (.aload_n 0, 1) := by decide +kernel
theorem dX8_goTenth_117 : decode cX8_goTenth 117 = .ok (.getfield 26, 3) := by decide +kernel
theorem dX8_goTenth_120 : decode cX8_goTenth 120 = .ok (.iconst 3, 1) := by decide +kernel
theorem dX8_goTenth_121 : decode cX8_goTenth 121 = .ok (.aaload, 1) := by decide +kernel
theorem dX8_goTenth_122 : decode cX8_goTenth 122 = .ok (.iload 4, 2) := by decide +kernel
theorem dX8_goTenth_124 : decode cX8_goTenth 124 = .ok (.iload 6, 2) := by decide +kernel
theorem dX8_goTenth_126 : decode cX8_goTenth 126 = .ok (.iastore, 1) := by decide +kernel
theorem dX8_goTenth_127 : decode cX8_goTenth 127 = .ok (.aload_n 0, 1) := by decide +kernel
theorem dX8_goTenth_128 : decode cX8_goTenth 128 = .ok (.getfield 26, 3) := by decide +kernel
theorem dX8_goTenth_131 : decode cX8_goTenth 131 = .ok (.iconst 4, 1) := by decide +kernel
theorem dX8_goTenth_132 : decode cX8_goTenth 132 = .ok (.aaload, 1) := by decide +kernel
theorem dX8_goTenth_133 : decode cX8_goTenth 133 = .ok (.iload 4, 2) := by decide +kernel
theorem dX8_goTenth_135 : decode cX8_goTenth 135 = .ok (.aload_n 0, 1) := by decide +kernel
theorem dX8_goTenth_136 : decode cX8_goTenth 136 = .ok (.getfield 37, 3) := by decide +kernel
theorem dX8_goTenth_139 : decode cX8_goTenth 139 = .ok (.iastore, 1) := by decide +kernel
theorem dX8_goTenth_140 : decode cX8_goTenth 140 = .ok (.aload_n 0, 1) := by decide +kernel
theorem dX8_goTenth_141 : decode cX8_goTenth 141 = .ok (.dup, 1) := by decide +kernel
theorem dX8_goTenth_142 : decode cX8_goTenth 142 = .ok (.getfield 40, 3) := by decide +kernel
theorem dX8_goTenth_145 : decode cX8_goTenth 145 = .ok (.iconst 1, 1) := by decide +kernel
theorem dX8_goTenth_146 : decode cX8_goTenth 146 = .ok (.iadd, 1) := by decide +kernel
theorem dX8_goTenth_147 : decode cX8_goTenth 147 = .ok (.putfield 40, 3) := by decide +kernel
theorem dX8_goTenth_150 : decode cX8_goTenth 150 = .ok (.aload_n 0, 1) := by decide +kernel
theorem dX8_goTenth_151 : decode cX8_goTenth 151 = .ok (.aload_n 0, 1) := by decide +kernel
theorem dX8_goTenth_152 : decode cX8_goTenth 152 = .ok (.getfield 37, 3) := by decide +kernel
theorem dX8_goTenth_155 : decode cX8_goTenth 155 = .ok (.aload_n 1, 1) := by decide +kernel
theorem dX8_goTenth_156 : decode cX8_goTenth 156 = .ok (.getfield 58, 3) := by decide +kernel
theorem dX8_goTenth_159 : decode cX8_goTenth 159 = .ok (.iconst 2, 1) := by decide +kernel
theorem dX8_goTenth_160 : decode cX8_goTenth 160 = .ok (.iaload, 1) := by decide +kernel
theorem dX8_goTenth_161 : decode cX8_goTenth 161 = .ok (.if_icmp .lt 7, 3) := by decide +kernel
theorem dX8_goTenth_164 : decode cX8_goTenth 164 = .ok (.iconst 0, 1) := by decide +kernel
theorem dX8_goTenth_165 : decode cX8_goTenth 165 = .ok (.goto 23, 3) := by decide +kernel
theorem dX8_goTenth_168 : decode cX8_goTenth 168 = .ok (.aload_n 0, 1) := by decide +kernel
theorem dX8_goTenth_169 : decode cX8_goTenth 169 = .ok (.getfield 37, 3) := by decide +kernel
theorem dX8_goTenth_172 : decode cX8_goTenth 172 = .ok (.aload_n 1, 1) := by decide +kernel
theorem dX8_goTenth_173 : decode cX8_goTenth 173 = .ok (.getfield 58, 3) := by decide +kernel
theorem dX8_goTenth_176 : decode cX8_goTenth 176 = .ok (.iconst 2, 1) := by decide +kernel
theorem dX8_goTenth_177 : decode cX8_goTenth 177 = .ok (.iaload, 1) := by decide +kernel
theorem dX8_goTenth_178 : decode cX8_goTenth 178 = .ok (.ineg, 1) := by decide +kernel
theorem dX8_goTenth_179 : decode cX8_goTenth 179 = .ok (.if_icmp .gt 7, 3) := by decide +kernel
theorem dX8_goTenth_182 : decode cX8_goTenth 182 = .ok (.iconst 1, 1) := by decide +kernel
theorem dX8_goTenth_183 : decode cX8_goTenth 183 = .ok (.goto 5, 3) := by decide +kernel
theorem dX8_goTenth_186 : decode cX8_goTenth 186 = .ok (.ldc 63, 2) := by decide +kernel
theorem dX8_goTenth_188 : decode cX8_goTenth 188 = .ok (.putfield 43, 3) := by decide +kernel
theorem dX8_goTenth_191 : decode cX8_goTenth 191 = .ok (.return_, 1) := by decide +kernel
theorem dX8_forceOfSide_0 : decode cX8_forceOfSide 0 = .ok (.iconst 0, 1) := by decide +kernel
theorem dX8_forceOfSide_1 : decode cX8_forceOfSide 1 = .ok (.istore 4, 2) := by decide +kernel
theorem dX8_forceOfSide_3 : decode cX8_forceOfSide 3 = .ok (.iconst 0, 1) := by decide +kernel
theorem dX8_forceOfSide_4 : decode cX8_forceOfSide 4 = .ok (.istore 5, 2) := by decide +kernel
theorem dX8_forceOfSide_6 : decode cX8_forceOfSide 6 = .ok (.iload 5, 2) := by decide +kernel
theorem dX8_forceOfSide_8 : decode cX8_forceOfSide 8 = .ok (.aload_n 1, 1) := by decide +kernel
theorem dX8_forceOfSide_9 : decode cX8_forceOfSide 9 = .ok (.getfield 64, 3) := by decide +kernel
theorem dX8_forceOfSide_12 : decode cX8_forceOfSide 12 = .ok (.iload_n 2, 1) := by decide +kernel
theorem dX8_forceOfSide_13 : decode cX8_forceOfSide 13 = .ok (.aaload, 1) := by decide +kernel
theorem dX8_forceOfSide_14 : decode cX8_forceOfSide 14 = .ok (.getfield 68, 3) := by decide +kernel
theorem dX8_forceOfSide_17 : decode cX8_forceOfSide 17 = .ok (.if_icmp .ge 43, 3) := by decide +kernel
theorem dX8_forceOfSide_20 : decode cX8_forceOfSide 20 = .ok (.aload_n 0, 1) := by decide +kernel
theorem dX8_forceOfSide_21 : decode cX8_forceOfSide 21 = .ok (.aload_n 1, 1) := by decide +kernel
theorem dX8_forceOfSide_22 : decode cX8_forceOfSide 22 = .ok (.getfield 64, 3) := by decide +kernel
theorem dX8_forceOfSide_25 : decode cX8_forceOfSide 25 = .ok (.iload_n 2, 1) := by decide +kernel
theorem dX8_forceOfSide_26 : decode cX8_forceOfSide 26 = .ok (.aaload, 1) := by decide +kernel
theorem dX8_forceOfSide_27 : decode cX8_forceOfSide 27 = .ok (.getfield 73, 3) := by decide +kernel
theorem dX8_forceOfSide_30 : decode cX8_forceOfSide 30 = .ok (.iload 5, 2) := by decide +kernel
theorem dX8_forceOfSide_32 : decode cX8_forceOfSide 32 = .ok (.aaload, 1) := by decide +kernel
theorem dX8_forceOfSide_33 : decode cX8_forceOfSide 33 = .ok (.iload_n 2, 1) := by decide +kernel
theorem dX8_forceOfSide_34 : decode cX8_forceOfSide 34 = .ok (.iload 5, 2) := by decide +kernel
theorem dX8_forceOfSide_36 : decode cX8_forceOfSide 36 = .ok (.iload_n 3, 1) := by decide +kernel
theorem dX8_forceOfSide_37 : decode cX8_forceOfSide 37 = .ok (.invokevirtual 118, 3) := by decide +kernel
theorem dX8_forceOfSide_40 : decode cX8_forceOfSide 40 = .ok (.iload 4, 2) := by decide +kernel
theorem dX8_forceOfSide_42 : decode cX8_forceOfSide 42 = .ok (.aload_n 0, 1) := by decide +kernel
theorem dX8_forceOfSide_43 : decode cX8_forceOfSide 43 = .ok (.getfield 23, 3) := by decide +kernel
theorem dX8_forceOfSide_46 : decode cX8_forceOfSide 46 = .ok (.iload_n 2, 1) := by decide +kernel
theorem dX8_forceOfSide_47 : decode cX8_forceOfSide 47 = .ok (.aaload, 1) := by decide +kernel
theorem dX8_forceOfSide_48 : decode cX8_forceOfSide 48 = .ok (.iload 5, 2) := by decide +kernel
theorem dX8_forceOfSide_50 : decode cX8_forceOfSide 50 = .ok (.iaload, 1) := by decide +kernel
theorem dX8_forceOfSide_51 : decode cX8_forceOfSide 51 = .ok (.iadd, 1) := by decide +kernel
theorem dX8_forceOfSide_52 : decode cX8_forceOfSide 52 = .ok (.istore 4, 2) := by decide +kernel
theorem dX8_forceOfSide_54 : decode cX8_forceOfSide 54 = .ok (.iinc 5 1, 3) := by decide +kernel
theorem dX8_forceOfSide_57 : decode cX8_forceOfSide 57 = .ok (.goto (-51), 3) := by decide +kernel
theorem dX8_forceOfSide_60 : decode cX8_forceOfSide 60 = .ok (.iload 4, 2) := by decide +kernel
theorem dX8_forceOfSide_62 : decode cX8_forceOfSide 62 = .ok (.aload_n 0, 1) := by decide +kernel
theorem dX8_forceOfSide_63 : decode cX8_forceOfSide 63 = .ok (.getfield 9, 3) := by decide +kernel
theorem dX8_forceOfSide_66 : decode cX8_forceOfSide 66 = .ok (.aload_n 0, 1) := by decide +kernel
theorem dX8_forceOfSide_67 : decode cX8_forceOfSide 67 = .ok (.iload_n 2, 1) := by decide +kernel
theorem dX8_forceOfSide_68 : decode cX8_forceOfSide 68 = .ok (.invokevirtual 122, 3) := by decide +kernel
theorem dX8_forceOfSide_71 : decode cX8_forceOfSide 71 = .ok (.iaload, 1) := by decide +kernel
theorem dX8_forceOfSide_72 : decode cX8_forceOfSide 72 = .ok (.imul, 1) := by decide +kernel
theorem dX8_forceOfSide_73 : decode cX8_forceOfSide 73 = .ok (.bipush 100, 2) := by decide +kernel
theorem dX8_forceOfSide_75 : decode cX8_forceOfSide 75 = .ok (.idiv, 1) := by decide +kernel
theorem dX8_forceOfSide_76 : decode cX8_forceOfSide 76 = .ok (.ireturn, 1) := by decide +kernel
theorem dX8_doTenth_0 : decode cX8_doTenth 0 = .ok (.aload_n 0, 1) := by decide +kernel
theorem dX8_doTenth_1 : decode cX8_doTenth 1 = .ok (.iload_n 2, 1) := by decide +kernel
theorem dX8_doTenth_2 : decode cX8_doTenth 2 = .ok (.aload_n 0, 1) := by decide +kernel
theorem dX8_doTenth_3 : decode cX8_doTenth 3 = .ok (.getfield 40, 3) := by decide +kernel
theorem dX8_doTenth_6 : decode cX8_doTenth 6 = .ok (.aload_n 1, 1) := by decide +kernel
theorem dX8_doTenth_7 : decode cX8_doTenth 7 = .ok (.iconst 4, 1) := by decide +kernel
theorem dX8_doTenth_8 : decode cX8_doTenth 8 = .ok (.iaload, 1) := by decide +kernel
theorem dX8_doTenth_9 : decode cX8_doTenth 9 = .ok (.isub, 1) := by decide +kernel
theorem dX8_doTenth_10 : decode cX8_doTenth 10 = .ok (.invokevirtual 126, 3) := by decide +kernel
theorem dX8_doTenth_13 : decode cX8_doTenth 13 = .ok (.istore 5, 2) := by decide +kernel
theorem dX8_doTenth_15 : decode cX8_doTenth 15 = .ok (.aload_n 0, 1) := by decide +kernel
theorem dX8_doTenth_16 : decode cX8_doTenth 16 = .ok (.getfield 17, 3) := by decide +kernel
theorem dX8_doTenth_19 : decode cX8_doTenth 19 = .ok (.iload_n 2, 1) := by decide +kernel
theorem dX8_doTenth_20 : decode cX8_doTenth 20 = .ok (.aaload, 1) := by decide +kernel
theorem dX8_doTenth_21 : decode cX8_doTenth 21 = .ok (.iload_n 3, 1) := by decide +kernel
theorem dX8_doTenth_22 : decode cX8_doTenth 22 = .ok (.iaload, 1) := by decide +kernel
theorem dX8_doTenth_23 : decode cX8_doTenth 23 = .ok (.getstatic 129, 3) := by decide +kernel
theorem dX8_doTenth_26 : decode cX8_doTenth 26 = .ok (.iload 5, 2) := by decide +kernel
theorem dX8_doTenth_28 : decode cX8_doTenth 28 = .ok (.iaload, 1) := by decide +kernel
theorem dX8_doTenth_29 : decode cX8_doTenth 29 = .ok (.if_icmp .ge 7, 3) := by decide +kernel
theorem dX8_doTenth_32 : decode cX8_doTenth 32 = .ok (.iconst 4, 1) := by decide +kernel
theorem dX8_doTenth_33 : decode cX8_doTenth 33 = .ok (.goto 5, 3) := by decide +kernel
theorem dX8_doTenth_36 : decode cX8_doTenth 36 = .ok (.iload 5, 2) := by decide +kernel
theorem dX8_doTenth_38 : decode cX8_doTenth 38 = .ok (.istore 6, 2) := by decide +kernel
theorem dX8_doTenth_40 : decode cX8_doTenth 40 = .ok (.iload 6, 2) := by decide +kernel
theorem dX8_doTenth_42 : decode cX8_doTenth 42 = .ok (.iconst 4, 1) := by decide +kernel
theorem dX8_doTenth_43 : decode cX8_doTenth 43 = .ok (.if_icmp .ne 30, 3) := by decide +kernel
theorem dX8_doTenth_46 : decode cX8_doTenth 46 = .ok (.aload_n 0, 1) := by decide +kernel
theorem dX8_doTenth_47 : decode cX8_doTenth 47 = .ok (.getfield 46, 3) := by decide +kernel
theorem dX8_doTenth_50 : decode cX8_doTenth 50 = .ok (.ldc 63, 2) := by decide +kernel
theorem dX8_doTenth_52 : decode cX8_doTenth 52 = .ok (.if_icmp .ne 21, 3) := by decide +kernel
theorem dX8_doTenth_55 : decode cX8_doTenth 55 = .ok (.aload_n 0, 1) := by decide +kernel
theorem dX8_doTenth_56 : decode cX8_doTenth 56 = .ok (.bipush 8, 2) := by decide +kernel
theorem dX8_doTenth_58 : decode cX8_doTenth 58 = .ok (.iload_n 2, 1) := by decide +kernel
theorem dX8_doTenth_59 : decode cX8_doTenth 59 = .ok (.imul, 1) := by decide +kernel
theorem dX8_doTenth_60 : decode cX8_doTenth 60 = .ok (.iload_n 3, 1) := by decide +kernel
theorem dX8_doTenth_61 : decode cX8_doTenth 61 = .ok (.iadd, 1) := by decide +kernel
theorem dX8_doTenth_62 : decode cX8_doTenth 62 = .ok (.putfield 46, 3) := by decide +kernel
theorem dX8_doTenth_65 : decode cX8_doTenth 65 = .ok (.aload_n 0, 1) := by decide +kernel
theorem dX8_doTenth_66 : decode cX8_doTenth 66 = .ok (.aload_n 0, 1) := by decide +kernel
theorem dX8_doTenth_67 : decode cX8_doTenth 67 = .ok (.getfield 40, 3) := by decide +kernel
theorem dX8_doTenth_70 : decode cX8_doTenth 70 = .ok (.putfield 49, 3) := by decide +kernel
theorem dX8_doTenth_73 : decode cX8_doTenth 73 = .ok (.aload_n 0, 1) := by decide +kernel
theorem dX8_doTenth_74 : decode cX8_doTenth 74 = .ok (.getfield 17, 3) := by decide +kernel
theorem dX8_doTenth_77 : decode cX8_doTenth 77 = .ok (.iload_n 2, 1) := by decide +kernel
theorem dX8_doTenth_78 : decode cX8_doTenth 78 = .ok (.aaload, 1) := by decide +kernel
theorem dX8_doTenth_79 : decode cX8_doTenth 79 = .ok (.iload_n 3, 1) := by decide +kernel
theorem dX8_doTenth_80 : decode cX8_doTenth 80 = .ok (.aload_n 1, 1) := by decide +kernel
theorem dX8_doTenth_81 : decode cX8_doTenth 81 = .ok (.iconst 3, 1) := by decide +kernel
theorem dX8_doTenth_82 : decode cX8_doTenth 82 = .ok (.iaload, 1) := by decide +kernel
theorem dX8_doTenth_83 : decode cX8_doTenth 83 = .ok (.aload_n 0, 1) := by decide +kernel
theorem dX8_doTenth_84 : decode cX8_doTenth 84 = .ok (.getfield 17, 3) := by decide +kernel
theorem dX8_doTenth_87 : decode cX8_doTenth 87 = .ok (.iload_n 2, 1) := by decide +kernel
theorem dX8_doTenth_88 : decode cX8_doTenth 88 = .ok (.aaload, 1) := by decide +kernel
theorem dX8_doTenth_89 : decode cX8_doTenth 89 = .ok (.iload_n 3, 1) := by decide +kernel
theorem dX8_doTenth_90 : decode cX8_doTenth 90 = .ok (.iaload, 1) := by decide +kernel
theorem dX8_doTenth_91 : decode cX8_doTenth 91 = .ok (.getstatic 129, 3) := by decide +kernel
theorem dX8_doTenth_94 : decode cX8_doTenth 94 = .ok (.iload 6, 2) := by decide +kernel
theorem dX8_doTenth_96 : decode cX8_doTenth 96 = .ok (.iaload, 1) := by decide +kernel
theorem dX8_doTenth_97 : decode cX8_doTenth 97 = .ok (.isub, 1) := by decide +kernel
theorem dX8_doTenth_98 : decode cX8_doTenth 98 = .ok (.invokestatic 109, 3) := by decide +kernel
theorem dX8_doTenth_101 : decode cX8_doTenth 101 = .ok (.iastore, 1) := by decide +kernel
theorem dX8_doTenth_102 : decode cX8_doTenth 102 = .ok (.aload_n 0, 1) := by decide +kernel
theorem dX8_doTenth_103 : decode cX8_doTenth 103 = .ok (.getfield 20, 3) := by decide +kernel
theorem dX8_doTenth_106 : decode cX8_doTenth 106 = .ok (.iload_n 2, 1) := by decide +kernel
theorem dX8_doTenth_107 : decode cX8_doTenth 107 = .ok (.aaload, 1) := by decide +kernel
theorem dX8_doTenth_108 : decode cX8_doTenth 108 = .ok (.iload_n 3, 1) := by decide +kernel
theorem dX8_doTenth_109 : decode cX8_doTenth 109 = .ok (.iload 6, 2) := by decide +kernel
theorem dX8_doTenth_111 : decode cX8_doTenth 111 = .ok (.iastore, 1) := by decide +kernel
theorem dX8_doTenth_112 : decode cX8_doTenth 112 = .ok (.aload_n 0, 1) := by decide +kernel
theorem dX8_doTenth_113 : decode cX8_doTenth 113 = .ok (.getfield 23, 3) := by decide +kernel
theorem dX8_doTenth_116 : decode cX8_doTenth 116 = .ok (.iload_n 2, 1) := by decide +kernel
theorem dX8_doTenth_117 : decode cX8_doTenth 117 = .ok (.aaload, 1) := by decide +kernel
theorem dX8_doTenth_118 : decode cX8_doTenth 118 = .ok (.iload_n 3, 1) := by decide +kernel
theorem dX8_doTenth_119 : decode cX8_doTenth 119 = .ok (.aload_n 1, 1) := by decide +kernel
theorem dX8_doTenth_120 : decode cX8_doTenth 120 = .ok (.iload 6, 2) := by decide +kernel
theorem dX8_doTenth_122 : decode cX8_doTenth 122 = .ok (.iload 4, 2) := by decide +kernel
theorem dX8_doTenth_124 : decode cX8_doTenth 124 = .ok (.invokestatic 132, 3) := by decide +kernel
theorem dX8_doTenth_127 : decode cX8_doTenth 127 = .ok (.iastore, 1) := by decide +kernel
theorem dX8_doTenth_128 : decode cX8_doTenth 128 = .ok (.return_, 1) := by decide +kernel
theorem dX8_orderAt_0 : decode cX8_orderAt 0 = .ok (.iload_n 2, 1) := by decide +kernel
theorem dX8_orderAt_1 : decode cX8_orderAt 1 = .ok (.ifCond .ge 7, 3) := by decide +kernel
theorem dX8_orderAt_4 : decode cX8_orderAt 4 = .ok (.iconst 0, 1) := by decide +kernel
theorem dX8_orderAt_5 : decode cX8_orderAt 5 = .ok (.goto 14, 3) := by decide +kernel
theorem dX8_orderAt_8 : decode cX8_orderAt 8 = .ok (.aload_n 0, 1) := by decide +kernel
theorem dX8_orderAt_9 : decode cX8_orderAt 9 = .ok (.getfield 26, 3) := by decide +kernel
theorem dX8_orderAt_12 : decode cX8_orderAt 12 = .ok (.iload_n 1, 1) := by decide +kernel
theorem dX8_orderAt_13 : decode cX8_orderAt 13 = .ok (.aaload, 1) := by decide +kernel
theorem dX8_orderAt_14 : decode cX8_orderAt 14 = .ok (.iload_n 2, 1) := by decide +kernel
theorem dX8_orderAt_15 : decode cX8_orderAt 15 = .ok (.bipush 60, 2) := by decide +kernel
theorem dX8_orderAt_17 : decode cX8_orderAt 17 = .ok (.irem, 1) := by decide +kernel
theorem dX8_orderAt_18 : decode cX8_orderAt 18 = .ok (.iaload, 1) := by decide +kernel
theorem dX8_orderAt_19 : decode cX8_orderAt 19 = .ok (.ireturn, 1) := by decide +kernel
theorem dX8_forceOf_0 : decode cX8_forceOf 0 = .ok (.iload_n 1, 1) := by decide +kernel
theorem dX8_forceOf_1 : decode cX8_forceOf 1 = .ok (.tableswitch 67 0 3 #[31, 35, 39, 61], 31) := by decide +kernel
theorem dX8_forceOf_32 : decode cX8_forceOf 32 = .ok (.aload_n 0, 1) := by decide +kernel
theorem dX8_forceOf_33 : decode cX8_forceOf 33 = .ok (.iconst 1, 1) := by decide +kernel
theorem dX8_forceOf_34 : decode cX8_forceOf 34 = .ok (.iaload, 1) := by decide +kernel
theorem dX8_forceOf_35 : decode cX8_forceOf 35 = .ok (.ireturn, 1) := by decide +kernel
theorem dX8_forceOf_36 : decode cX8_forceOf 36 = .ok (.aload_n 0, 1) := by decide +kernel
theorem dX8_forceOf_37 : decode cX8_forceOf 37 = .ok (.iconst 2, 1) := by decide +kernel
theorem dX8_forceOf_38 : decode cX8_forceOf 38 = .ok (.iaload, 1) := by decide +kernel
theorem dX8_forceOf_39 : decode cX8_forceOf 39 = .ok (.ireturn, 1) := by decide +kernel
theorem dX8_forceOf_40 : decode cX8_forceOf 40 = .ok (.iload_n 2, 1) := by decide +kernel
theorem dX8_forceOf_41 : decode cX8_forceOf 41 = .ok (.ifCond .eq 15, 3) := by decide +kernel
theorem dX8_forceOf_44 : decode cX8_forceOf 44 = .ok (.aload_n 0, 1) := by decide +kernel
theorem dX8_forceOf_45 : decode cX8_forceOf 45 = .ok (.iconst 1, 1) := by decide +kernel
theorem dX8_forceOf_46 : decode cX8_forceOf 46 = .ok (.iaload, 1) := by decide +kernel
theorem dX8_forceOf_47 : decode cX8_forceOf 47 = .ok (.aload_n 0, 1) := by decide +kernel
theorem dX8_forceOf_48 : decode cX8_forceOf 48 = .ok (.iconst 2, 1) := by decide +kernel
theorem dX8_forceOf_49 : decode cX8_forceOf 49 = .ok (.iaload, 1) := by decide +kernel
theorem dX8_forceOf_50 : decode cX8_forceOf 50 = .ok (.iadd, 1) := by decide +kernel
theorem dX8_forceOf_51 : decode cX8_forceOf 51 = .ok (.iconst 2, 1) := by decide +kernel
theorem dX8_forceOf_52 : decode cX8_forceOf 52 = .ok (.idiv, 1) := by decide +kernel
theorem dX8_forceOf_53 : decode cX8_forceOf 53 = .ok (.goto 8, 3) := by decide +kernel
theorem dX8_forceOf_56 : decode cX8_forceOf 56 = .ok (.aload_n 0, 1) := by decide +kernel
theorem dX8_forceOf_57 : decode cX8_forceOf 57 = .ok (.iconst 1, 1) := by decide +kernel
theorem dX8_forceOf_58 : decode cX8_forceOf 58 = .ok (.iaload, 1) := by decide +kernel
theorem dX8_forceOf_59 : decode cX8_forceOf 59 = .ok (.iconst 2, 1) := by decide +kernel
theorem dX8_forceOf_60 : decode cX8_forceOf 60 = .ok (.idiv, 1) := by decide +kernel
theorem dX8_forceOf_61 : decode cX8_forceOf 61 = .ok (.ireturn, 1) := by decide +kernel
theorem dX8_forceOf_62 : decode cX8_forceOf 62 = .ok (.aload_n 0, 1) := by decide +kernel
theorem dX8_forceOf_63 : decode cX8_forceOf 63 = .ok (.iconst 1, 1) := by decide +kernel
theorem dX8_forceOf_64 : decode cX8_forceOf 64 = .ok (.iaload, 1) := by decide +kernel
theorem dX8_forceOf_65 : decode cX8_forceOf 65 = .ok (.iconst 2, 1) := by decide +kernel
theorem dX8_forceOf_66 : decode cX8_forceOf 66 = .ok (.idiv, 1) := by decide +kernel
theorem dX8_forceOf_67 : decode cX8_forceOf 67 = .ok (.ireturn, 1) := by decide +kernel
theorem dX8_forceOf_68 : decode cX8_forceOf 68 = .ok (.aload_n 0, 1) := by decide +kernel
theorem dX8_forceOf_69 : decode cX8_forceOf 69 = .ok (.iconst 1, 1) := by decide +kernel
theorem dX8_forceOf_70 : decode cX8_forceOf 70 = .ok (.iaload, 1) := by decide +kernel
theorem dX8_forceOf_71 : decode cX8_forceOf 71 = .ok (.iconst 4, 1) := by decide +kernel
theorem dX8_forceOf_72 : decode cX8_forceOf 72 = .ok (.idiv, 1) := by decide +kernel
theorem dX8_forceOf_73 : decode cX8_forceOf 73 = .ok (.ireturn, 1) := by decide +kernel
theorem dX8_endUnder_0 : decode cX8_endUnder 0 = .ok (.iload_n 1, 1) := by decide +kernel
theorem dX8_endUnder_1 : decode cX8_endUnder 1 = .ok (.aload_n 0, 1) := by decide +kernel
theorem dX8_endUnder_2 : decode cX8_endUnder 2 = .ok (.getfield 33, 3) := by decide +kernel
theorem dX8_endUnder_5 : decode cX8_endUnder 5 = .ok (.ixor, 1) := by decide +kernel
theorem dX8_endUnder_6 : decode cX8_endUnder 6 = .ok (.ireturn, 1) := by decide +kernel
theorem dX8_wearEnd_0 : decode cX8_wearEnd 0 = .ok (.iload_n 3, 1) := by decide +kernel
theorem dX8_wearEnd_1 : decode cX8_wearEnd 1 = .ok (.iconst 1, 1) := by decide +kernel
theorem dX8_wearEnd_2 : decode cX8_wearEnd 2 = .ok (.if_icmp .ne 35, 3) := by decide +kernel
theorem dX8_wearEnd_5 : decode cX8_wearEnd 5 = .ok (.aload_n 0, 1) := by decide +kernel
theorem dX8_wearEnd_6 : decode cX8_wearEnd 6 = .ok (.iload_n 2, 1) := by decide +kernel
theorem dX8_wearEnd_7 : decode cX8_wearEnd 7 = .ok (.invokevirtual 122, 3) := by decide +kernel
theorem dX8_wearEnd_10 : decode cX8_wearEnd 10 = .ok (.istore 4, 2) := by decide +kernel
theorem dX8_wearEnd_12 : decode cX8_wearEnd 12 = .ok (.aload_n 0, 1) := by decide +kernel
theorem dX8_wearEnd_13 : decode cX8_wearEnd 13 = .ok (.getfield 9, 3) := by decide +kernel
theorem dX8_wearEnd_16 : decode cX8_wearEnd 16 = .ok (.iload 4, 2) := by decide +kernel
theorem dX8_wearEnd_18 : decode cX8_wearEnd 18 = .ok (.iconst 1, 1) := by decide +kernel
theorem dX8_wearEnd_19 : decode cX8_wearEnd 19 = .ok (.aload_n 0, 1) := by decide +kernel
theorem dX8_wearEnd_20 : decode cX8_wearEnd 20 = .ok (.getfield 9, 3) := by decide +kernel
theorem dX8_wearEnd_23 : decode cX8_wearEnd 23 = .ok (.iload 4, 2) := by decide +kernel
theorem dX8_wearEnd_25 : decode cX8_wearEnd 25 = .ok (.iaload, 1) := by decide +kernel
theorem dX8_wearEnd_26 : decode cX8_wearEnd 26 = .ok (.aload_n 1, 1) := by decide +kernel
theorem dX8_wearEnd_27 : decode cX8_wearEnd 27 = .ok (.getfield 58, 3) := by decide +kernel
theorem dX8_wearEnd_30 : decode cX8_wearEnd 30 = .ok (.iconst 1, 1) := by decide +kernel
theorem dX8_wearEnd_31 : decode cX8_wearEnd 31 = .ok (.iaload, 1) := by decide +kernel
theorem dX8_wearEnd_32 : decode cX8_wearEnd 32 = .ok (.isub, 1) := by decide +kernel
theorem dX8_wearEnd_33 : decode cX8_wearEnd 33 = .ok (.invokestatic 115, 3) := by decide +kernel
theorem dX8_wearEnd_36 : decode cX8_wearEnd 36 = .ok (.iastore, 1) := by decide +kernel
theorem dX8_wearEnd_37 : decode cX8_wearEnd 37 = .ok (.return_, 1) := by decide +kernel
theorem dX8_state_0 : decode cX8_state 0 = .ok (.iload_n 1, 1) := by decide +kernel
theorem dX8_state_1 : decode cX8_state 1 = .ok (.tableswitch 68 0 5 #[39, 44, 49, 54, 54, 63], 39) := by decide +kernel
theorem dX8_state_40 : decode cX8_state 40 = .ok (.aload_n 0, 1) := by decide +kernel
theorem dX8_state_41 : decode cX8_state 41 = .ok (.getfield 37, 3) := by decide +kernel
theorem dX8_state_44 : decode cX8_state 44 = .ok (.ireturn, 1) := by decide +kernel
theorem dX8_state_45 : decode cX8_state 45 = .ok (.aload_n 0, 1) := by decide +kernel
theorem dX8_state_46 : decode cX8_state 46 = .ok (.getfield 40, 3) := by decide +kernel
theorem dX8_state_49 : decode cX8_state 49 = .ok (.ireturn, 1) := by decide +kernel
theorem dX8_state_50 : decode cX8_state 50 = .ok (.aload_n 0, 1) := by decide +kernel
theorem dX8_state_51 : decode cX8_state 51 = .ok (.getfield 43, 3) := by decide +kernel
theorem dX8_state_54 : decode cX8_state 54 = .ok (.ireturn, 1) := by decide +kernel
theorem dX8_state_55 : decode cX8_state 55 = .ok (.aload_n 0, 1) := by decide +kernel
theorem dX8_state_56 : decode cX8_state 56 = .ok (.getfield 9, 3) := by decide +kernel
theorem dX8_state_59 : decode cX8_state 59 = .ok (.iload_n 1, 1) := by decide +kernel
theorem dX8_state_60 : decode cX8_state 60 = .ok (.iconst 3, 1) := by decide +kernel
theorem dX8_state_61 : decode cX8_state 61 = .ok (.isub, 1) := by decide +kernel
theorem dX8_state_62 : decode cX8_state 62 = .ok (.iaload, 1) := by decide +kernel
theorem dX8_state_63 : decode cX8_state 63 = .ok (.ireturn, 1) := by decide +kernel
theorem dX8_state_64 : decode cX8_state 64 = .ok (.aload_n 0, 1) := by decide +kernel
theorem dX8_state_65 : decode cX8_state 65 = .ok (.getfield 46, 3) := by decide +kernel
theorem dX8_state_68 : decode cX8_state 68 = .ok (.ireturn, 1) := by decide +kernel
theorem dX8_state_69 : decode cX8_state 69 = .ok (.aload_n 0, 1) := by decide +kernel
theorem dX8_state_70 : decode cX8_state 70 = .ok (.getfield 49, 3) := by decide +kernel
theorem dX8_state_73 : decode cX8_state 73 = .ok (.ireturn, 1) := by decide +kernel
theorem dX8_hasDoings_0 : decode cX8_hasDoings 0 = .ok (.aload_n 0, 1) := by decide +kernel
theorem dX8_hasDoings_1 : decode cX8_hasDoings 1 = .ok (.getfield 29, 3) := by decide +kernel
theorem dX8_hasDoings_4 : decode cX8_hasDoings 4 = .ok (.ifCond .eq 14, 3) := by decide +kernel
theorem dX8_hasDoings_7 : decode cX8_hasDoings 7 = .ok (.aload_n 0, 1) := by decide +kernel
theorem dX8_hasDoings_8 : decode cX8_hasDoings 8 = .ok (.getfield 40, 3) := by decide +kernel
theorem dX8_hasDoings_11 : decode cX8_hasDoings 11 = .ok (.ifCond .le 7, 3) := by decide +kernel
theorem dX8_hasDoings_14 : decode cX8_hasDoings 14 = .ok (.iconst 1, 1) := by decide +kernel
theorem dX8_hasDoings_15 : decode cX8_hasDoings 15 = .ok (.goto 4, 3) := by decide +kernel
theorem dX8_hasDoings_18 : decode cX8_hasDoings 18 = .ok (.iconst 0, 1) := by decide +kernel
theorem dX8_hasDoings_19 : decode cX8_hasDoings 19 = .ok (.ireturn, 1) := by decide +kernel
theorem dX8_keptTenths_0 : decode cX8_keptTenths 0 = .ok (.aload_n 0, 1) := by decide +kernel
theorem dX8_keptTenths_1 : decode cX8_keptTenths 1 = .ok (.getfield 29, 3) := by decide +kernel
theorem dX8_keptTenths_4 : decode cX8_keptTenths 4 = .ok (.ifCond .eq 15, 3) := by decide +kernel
theorem dX8_keptTenths_7 : decode cX8_keptTenths 7 = .ok (.aload_n 0, 1) := by decide +kernel
theorem dX8_keptTenths_8 : decode cX8_keptTenths 8 = .ok (.getfield 40, 3) := by decide +kernel
theorem dX8_keptTenths_11 : decode cX8_keptTenths 11 = .ok (.bipush 60, 2) := by decide +kernel
theorem dX8_keptTenths_13 : decode cX8_keptTenths 13 = .ok (.invokestatic 109, 3) := by decide +kernel
theorem dX8_keptTenths_16 : decode cX8_keptTenths 16 = .ok (.goto 4, 3) := by decide +kernel
theorem dX8_keptTenths_19 : decode cX8_keptTenths 19 = .ok (.iconst 0, 1) := by decide +kernel
theorem dX8_keptTenths_20 : decode cX8_keptTenths 20 = .ok (.ireturn, 1) := by decide +kernel
theorem dX8_keptAgo_0 : decode cX8_keptAgo 0 = .ok (.aload_n 0, 1) := by decide +kernel
theorem dX8_keptAgo_1 : decode cX8_keptAgo 1 = .ok (.getfield 26, 3) := by decide +kernel
theorem dX8_keptAgo_4 : decode cX8_keptAgo 4 = .ok (.iload_n 1, 1) := by decide +kernel
theorem dX8_keptAgo_5 : decode cX8_keptAgo 5 = .ok (.aaload, 1) := by decide +kernel
theorem dX8_keptAgo_6 : decode cX8_keptAgo 6 = .ok (.aload_n 0, 1) := by decide +kernel
theorem dX8_keptAgo_7 : decode cX8_keptAgo 7 = .ok (.getfield 40, 3) := by decide +kernel
theorem dX8_keptAgo_10 : decode cX8_keptAgo 10 = .ok (.iconst 1, 1) := by decide +kernel
theorem dX8_keptAgo_11 : decode cX8_keptAgo 11 = .ok (.isub, 1) := by decide +kernel
theorem dX8_keptAgo_12 : decode cX8_keptAgo 12 = .ok (.iload_n 2, 1) := by decide +kernel
theorem dX8_keptAgo_13 : decode cX8_keptAgo 13 = .ok (.isub, 1) := by decide +kernel
theorem dX8_keptAgo_14 : decode cX8_keptAgo 14 = .ok (.bipush 60, 2) := by decide +kernel
theorem dX8_keptAgo_16 : decode cX8_keptAgo 16 = .ok (.irem, 1) := by decide +kernel
theorem dX8_keptAgo_17 : decode cX8_keptAgo 17 = .ok (.iaload, 1) := by decide +kernel
theorem dX8_keptAgo_18 : decode cX8_keptAgo 18 = .ok (.ireturn, 1) := by decide +kernel
theorem dX8_roundOf_0 : decode cX8_roundOf 0 = .ok (.aload_n 0, 1) := by decide +kernel
theorem dX8_roundOf_1 : decode cX8_roundOf 1 = .ok (.invokevirtual 136, 3) := by decide +kernel
theorem dX8_roundOf_4 : decode cX8_roundOf 4 = .ok (.istore_n 2, 1) := by decide +kernel
theorem dX8_roundOf_5 : decode cX8_roundOf 5 = .ok (.iconst 1, 1) := by decide +kernel
theorem dX8_roundOf_6 : decode cX8_roundOf 6 = .ok (.istore_n 3, 1) := by decide +kernel
theorem dX8_roundOf_7 : decode cX8_roundOf 7 = .ok (.iload_n 3, 1) := by decide +kernel
theorem dX8_roundOf_8 : decode cX8_roundOf 8 = .ok (.bipush 30, 2) := by decide +kernel
theorem dX8_roundOf_10 : decode cX8_roundOf 10 = .ok (.if_icmp .gt 26, 3) := by decide +kernel
theorem dX8_roundOf_13 : decode cX8_roundOf 13 = .ok (.iload_n 3, 1) := by decide +kernel
theorem dX8_roundOf_14 : decode cX8_roundOf 14 = .ok (.iload_n 2, 1) := by decide +kernel
theorem dX8_roundOf_15 : decode cX8_roundOf 15 = .ok (.if_icmp .ge 21, 3) := by decide +kernel
theorem dX8_roundOf_18 : decode cX8_roundOf 18 = .ok (.aload_n 0, 1) := by decide +kernel
theorem dX8_roundOf_19 : decode cX8_roundOf 19 = .ok (.iload_n 1, 1) := by decide +kernel
theorem dX8_roundOf_20 : decode cX8_roundOf 20 = .ok (.iload_n 3, 1) := by decide +kernel
theorem dX8_roundOf_21 : decode cX8_roundOf 21 = .ok (.iload_n 2, 1) := by decide +kernel
theorem dX8_roundOf_22 : decode cX8_roundOf 22 = .ok (.invokevirtual 140, 3) := by decide +kernel
theorem dX8_roundOf_25 : decode cX8_roundOf 25 = .ok (.ifCond .eq 5, 3) := by decide +kernel
theorem dX8_roundOf_28 : decode cX8_roundOf 28 = .ok (.iload_n 3, 1) := by decide +kernel
theorem dX8_roundOf_29 : decode cX8_roundOf 29 = .ok (.ireturn, 1) := by decide +kernel
theorem dX8_roundOf_30 : decode cX8_roundOf 30 = .ok (.iinc 3 1, 3) := by decide +kernel
theorem dX8_roundOf_33 : decode cX8_roundOf 33 = .ok (.goto (-26), 3) := by decide +kernel
theorem dX8_roundOf_36 : decode cX8_roundOf 36 = .ok (.ldc 63, 2) := by decide +kernel
theorem dX8_roundOf_38 : decode cX8_roundOf 38 = .ok (.ireturn, 1) := by decide +kernel
theorem dX8_comesRound_0 : decode cX8_comesRound 0 = .ok (.iload_n 2, 1) := by decide +kernel
theorem dX8_comesRound_1 : decode cX8_comesRound 1 = .ok (.istore 4, 2) := by decide +kernel
theorem dX8_comesRound_3 : decode cX8_comesRound 3 = .ok (.iload 4, 2) := by decide +kernel
theorem dX8_comesRound_5 : decode cX8_comesRound 5 = .ok (.iload_n 3, 1) := by decide +kernel
theorem dX8_comesRound_6 : decode cX8_comesRound 6 = .ok (.if_icmp .ge 30, 3) := by decide +kernel
theorem dX8_comesRound_9 : decode cX8_comesRound 9 = .ok (.aload_n 0, 1) := by decide +kernel
theorem dX8_comesRound_10 : decode cX8_comesRound 10 = .ok (.iload_n 1, 1) := by decide +kernel
theorem dX8_comesRound_11 : decode cX8_comesRound 11 = .ok (.iload 4, 2) := by decide +kernel
theorem dX8_comesRound_13 : decode cX8_comesRound 13 = .ok (.invokevirtual 144, 3) := by decide +kernel
theorem dX8_comesRound_16 : decode cX8_comesRound 16 = .ok (.aload_n 0, 1) := by decide +kernel
theorem dX8_comesRound_17 : decode cX8_comesRound 17 = .ok (.iload_n 1, 1) := by decide +kernel
theorem dX8_comesRound_18 : decode cX8_comesRound 18 = .ok (.iload 4, 2) := by decide +kernel
theorem dX8_comesRound_20 : decode cX8_comesRound 20 = .ok (.iload_n 2, 1) := by decide +kernel
theorem dX8_comesRound_21 : decode cX8_comesRound 21 = .ok (.isub, 1) := by decide +kernel
theorem dX8_comesRound_22 : decode cX8_comesRound 22 = .ok (.invokevirtual 144, 3) := by decide +kernel
theorem dX8_comesRound_25 : decode cX8_comesRound 25 = .ok (.if_icmp .eq 5, 3) := by decide +kernel
theorem dX8_comesRound_28 : decode cX8_comesRound 28 = .ok (.iconst 0, 1) := by decide +kernel
theorem dX8_comesRound_29 : decode cX8_comesRound 29 = .ok (.ireturn, 1) := by decide +kernel
theorem dX8_comesRound_30 : decode cX8_comesRound 30 = .ok (.iinc 4 1, 3) := by decide +kernel
theorem dX8_comesRound_33 : decode cX8_comesRound 33 = .ok (.goto (-30), 3) := by decide +kernel
theorem dX8_comesRound_36 : decode cX8_comesRound 36 = .ok (.iconst 1, 1) := by decide +kernel
theorem dX8_comesRound_37 : decode cX8_comesRound 37 = .ok (.ireturn, 1) := by decide +kernel
theorem dX8_winnerOfThree_0 : decode cX8_winnerOfThree 0 = .ok (.aload_n 0, 1) := by decide +kernel
theorem dX8_winnerOfThree_1 : decode cX8_winnerOfThree 1 = .ok (.aload_n 1, 1) := by decide +kernel
theorem dX8_winnerOfThree_2 : decode cX8_winnerOfThree 2 = .ok (.invokevirtual 147, 3) := by decide +kernel
theorem dX8_winnerOfThree_5 : decode cX8_winnerOfThree 5 = .ok (.iconst 0, 1) := by decide +kernel
theorem dX8_winnerOfThree_6 : decode cX8_winnerOfThree 6 = .ok (.istore 4, 2) := by decide +kernel
theorem dX8_winnerOfThree_8 : decode cX8_winnerOfThree 8 = .ok (.iconst 0, 1) := by decide +kernel
theorem dX8_winnerOfThree_9 : decode cX8_winnerOfThree 9 = .ok (.istore 5, 2) := by decide +kernel
theorem dX8_winnerOfThree_11 : decode cX8_winnerOfThree 11 = .ok (.iload 5, 2) := by decide +kernel
theorem dX8_winnerOfThree_13 : decode cX8_winnerOfThree 13 = .ok (.iconst 3, 1) := by decide +kernel
theorem dX8_winnerOfThree_14 : decode cX8_winnerOfThree 14 = .ok (.if_icmp .ge 63, 3) := by decide +kernel
theorem dX8_winnerOfThree_17 : decode cX8_winnerOfThree 17 = .ok (.aload_n 0, 1) := by decide +kernel
theorem dX8_winnerOfThree_18 : decode cX8_winnerOfThree 18 = .ok (.aload_n 1, 1) := by decide +kernel
theorem dX8_winnerOfThree_19 : decode cX8_winnerOfThree 19 = .ok (.iload 5, 2) := by decide +kernel
theorem dX8_winnerOfThree_21 : decode cX8_winnerOfThree 21 = .ok (.iconst 1, 1) := by decide +kernel
theorem dX8_winnerOfThree_22 : decode cX8_winnerOfThree 22 = .ok (.if_icmp .ne 7, 3) := by decide +kernel
theorem dX8_winnerOfThree_25 : decode cX8_winnerOfThree 25 = .ok (.iconst 1, 1) := by decide +kernel
theorem dX8_winnerOfThree_26 : decode cX8_winnerOfThree 26 = .ok (.goto 4, 3) := by decide +kernel
theorem dX8_winnerOfThree_29 : decode cX8_winnerOfThree 29 = .ok (.iconst 0, 1) := by decide +kernel
theorem dX8_winnerOfThree_30 : decode cX8_winnerOfThree 30 = .ok (.invokevirtual 151, 3) := by decide +kernel
theorem dX8_winnerOfThree_33 : decode cX8_winnerOfThree 33 = .ok (.aload_n 0, 1) := by decide +kernel
theorem dX8_winnerOfThree_34 : decode cX8_winnerOfThree 34 = .ok (.aload_n 1, 1) := by decide +kernel
theorem dX8_winnerOfThree_35 : decode cX8_winnerOfThree 35 = .ok (.iload_n 2, 1) := by decide +kernel
theorem dX8_winnerOfThree_36 : decode cX8_winnerOfThree 36 = .ok (.invokevirtual 155, 3) := by decide +kernel
theorem dX8_winnerOfThree_39 : decode cX8_winnerOfThree 39 = .ok (.pop, 1) := by decide +kernel
theorem dX8_winnerOfThree_40 : decode cX8_winnerOfThree 40 = .ok (.aload_n 0, 1) := by decide +kernel
theorem dX8_winnerOfThree_41 : decode cX8_winnerOfThree 41 = .ok (.getfield 37, 3) := by decide +kernel
theorem dX8_winnerOfThree_44 : decode cX8_winnerOfThree 44 = .ok (.invokestatic 158, 3) := by decide +kernel
theorem dX8_winnerOfThree_47 : decode cX8_winnerOfThree 47 = .ok (.istore 6, 2) := by decide +kernel
theorem dX8_winnerOfThree_49 : decode cX8_winnerOfThree 49 = .ok (.iload 5, 2) := by decide +kernel
theorem dX8_winnerOfThree_51 : decode cX8_winnerOfThree 51 = .ok (.iload_n 3, 1) := by decide +kernel
theorem dX8_winnerOfThree_52 : decode cX8_winnerOfThree 52 = .ok (.if_icmp .ne 6, 3) := by decide +kernel
theorem dX8_winnerOfThree_55 : decode cX8_winnerOfThree 55 = .ok (.iload 6, 2) := by decide +kernel
theorem dX8_winnerOfThree_57 : decode cX8_winnerOfThree 57 = .ok (.ireturn, 1) := by decide +kernel
theorem dX8_winnerOfThree_58 : decode cX8_winnerOfThree 58 = .ok (.iload 4, 2) := by decide +kernel
theorem dX8_winnerOfThree_60 : decode cX8_winnerOfThree 60 = .ok (.aload_n 0, 1) := by decide +kernel
theorem dX8_winnerOfThree_61 : decode cX8_winnerOfThree 61 = .ok (.getfield 37, 3) := by decide +kernel
theorem dX8_winnerOfThree_64 : decode cX8_winnerOfThree 64 = .ok (.iconst 0, 1) := by decide +kernel
theorem dX8_winnerOfThree_65 : decode cX8_winnerOfThree 65 = .ok (.invokestatic 161, 3) := by decide +kernel
theorem dX8_winnerOfThree_68 : decode cX8_winnerOfThree 68 = .ok (.iadd, 1) := by decide +kernel
theorem dX8_winnerOfThree_69 : decode cX8_winnerOfThree 69 = .ok (.istore 4, 2) := by decide +kernel
theorem dX8_winnerOfThree_71 : decode cX8_winnerOfThree 71 = .ok (.iinc 5 1, 3) := by decide +kernel
theorem dX8_winnerOfThree_74 : decode cX8_winnerOfThree 74 = .ok (.goto (-63), 3) := by decide +kernel
theorem dX8_winnerOfThree_77 : decode cX8_winnerOfThree 77 = .ok (.iload 4, 2) := by decide +kernel
theorem dX8_winnerOfThree_79 : decode cX8_winnerOfThree 79 = .ok (.invokestatic 158, 3) := by decide +kernel
theorem dX8_winnerOfThree_82 : decode cX8_winnerOfThree 82 = .ok (.ireturn, 1) := by decide +kernel
theorem dX8_sideOf_0 : decode cX8_sideOf 0 = .ok (.iload_n 0, 1) := by decide +kernel
theorem dX8_sideOf_1 : decode cX8_sideOf 1 = .ok (.ifCond .le 7, 3) := by decide +kernel
theorem dX8_sideOf_4 : decode cX8_sideOf 4 = .ok (.iconst 0, 1) := by decide +kernel
theorem dX8_sideOf_5 : decode cX8_sideOf 5 = .ok (.goto 13, 3) := by decide +kernel
theorem dX8_sideOf_8 : decode cX8_sideOf 8 = .ok (.iload_n 0, 1) := by decide +kernel
theorem dX8_sideOf_9 : decode cX8_sideOf 9 = .ok (.ifCond .ge 7, 3) := by decide +kernel
theorem dX8_sideOf_12 : decode cX8_sideOf 12 = .ok (.iconst 1, 1) := by decide +kernel
theorem dX8_sideOf_13 : decode cX8_sideOf 13 = .ok (.goto 5, 3) := by decide +kernel
theorem dX8_sideOf_16 : decode cX8_sideOf 16 = .ok (.ldc 63, 2) := by decide +kernel
theorem dX8_sideOf_18 : decode cX8_sideOf 18 = .ok (.ireturn, 1) := by decide +kernel
theorem dX9_init_0 : decode cX9_init 0 = .ok (.aload_n 0, 1) := by decide +kernel
theorem dX9_init_1 : decode cX9_init 1 = .ok (.invokespecial 1, 3) := by decide +kernel
theorem dX9_init_4 : decode cX9_init 4 = .ok (.aload_n 0, 1) := by decide +kernel
theorem dX9_init_5 : decode cX9_init 5 = .ok (.bipush 8, 2) := by decide +kernel
theorem dX9_init_7 : decode cX9_init 7 = .ok (.anewarray 9, 3) := by decide +kernel
theorem dX9_init_10 : decode cX9_init 10 = .ok (.putfield 11, 3) := by decide +kernel
theorem dX9_init_13 : decode cX9_init 13 = .ok (.aload_n 0, 1) := by decide +kernel
theorem dX9_init_14 : decode cX9_init 14 = .ok (.new 15, 3) := by decide +kernel
theorem dX9_init_17 : decode cX9_init 17 = .ok (.dup, 1) := by decide +kernel
theorem dX9_init_18 : decode cX9_init 18 = .ok (.invokespecial 17, 3) := by decide +kernel
theorem dX9_init_21 : decode cX9_init 21 = .ok (.putfield 18, 3) := by decide +kernel
theorem dX9_init_24 : decode cX9_init 24 = .ok (.aload_n 0, 1) := by decide +kernel
theorem dX9_init_25 : decode cX9_init 25 = .ok (.new 22, 3) := by decide +kernel
theorem dX9_init_28 : decode cX9_init 28 = .ok (.dup, 1) := by decide +kernel
theorem dX9_init_29 : decode cX9_init 29 = .ok (.invokespecial 24, 3) := by decide +kernel
theorem dX9_init_32 : decode cX9_init 32 = .ok (.putfield 25, 3) := by decide +kernel
theorem dX9_init_35 : decode cX9_init 35 = .ok (.aload_n 0, 1) := by decide +kernel
theorem dX9_init_36 : decode cX9_init 36 = .ok (.new 22, 3) := by decide +kernel
theorem dX9_init_39 : decode cX9_init 39 = .ok (.dup, 1) := by decide +kernel
theorem dX9_init_40 : decode cX9_init 40 = .ok (.invokespecial 24, 3) := by decide +kernel
theorem dX9_init_43 : decode cX9_init 43 = .ok (.putfield 29, 3) := by decide +kernel
theorem dX9_init_46 : decode cX9_init 46 = .ok (.aload_n 0, 1) := by decide +kernel
theorem dX9_init_47 : decode cX9_init 47 = .ok (.new 32, 3) := by decide +kernel
theorem dX9_init_50 : decode cX9_init 50 = .ok (.dup, 1) := by decide +kernel
theorem dX9_init_51 : decode cX9_init 51 = .ok (.invokespecial 34, 3) := by decide +kernel
theorem dX9_init_54 : decode cX9_init 54 = .ok (.putfield 35, 3) := by decide +kernel
theorem dX9_init_57 : decode cX9_init 57 = .ok (.aload_n 0, 1) := by decide +kernel
theorem dX9_init_58 : decode cX9_init 58 = .ok (.new 32, 3) := by decide +kernel
theorem dX9_init_61 : decode cX9_init 61 = .ok (.dup, 1) := by decide +kernel
theorem dX9_init_62 : decode cX9_init 62 = .ok (.invokespecial 34, 3) := by decide +kernel
theorem dX9_init_65 : decode cX9_init 65 = .ok (.putfield 39, 3) := by decide +kernel
theorem dX9_init_68 : decode cX9_init 68 = .ok (.aload_n 0, 1) := by decide +kernel
theorem dX9_init_69 : decode cX9_init 69 = .ok (.iconst 2, 1) := by decide +kernel
theorem dX9_init_70 : decode cX9_init 70 = .ok (.anewarray 22, 3) := by decide +kernel
theorem dX9_init_73 : decode cX9_init 73 = .ok (.putfield 42, 3) := by decide +kernel
theorem dX9_init_76 : decode cX9_init 76 = .ok (.aload_n 0, 1) := by decide +kernel
theorem dX9_init_77 : decode cX9_init 77 = .ok (.iconst 2, 1) := by decide +kernel
theorem dX9_init_78 : decode cX9_init 78 = .ok (.anewarray 32, 3) := by decide +kernel
theorem dX9_init_81 : decode cX9_init 81 = .ok (.putfield 46, 3) := by decide +kernel
theorem dX9_init_84 : decode cX9_init 84 = .ok (.aload_n 0, 1) := by decide +kernel
theorem dX9_init_85 : decode cX9_init 85 = .ok (.new 50, 3) := by decide +kernel
theorem dX9_init_88 : decode cX9_init 88 = .ok (.dup, 1) := by decide +kernel
theorem dX9_init_89 : decode cX9_init 89 = .ok (.invokespecial 52, 3) := by decide +kernel
theorem dX9_init_92 : decode cX9_init 92 = .ok (.putfield 53, 3) := by decide +kernel
theorem dX9_init_95 : decode cX9_init 95 = .ok (.aload_n 0, 1) := by decide +kernel
theorem dX9_init_96 : decode cX9_init 96 = .ok (.new 57, 3) := by decide +kernel
theorem dX9_init_99 : decode cX9_init 99 = .ok (.dup, 1) := by decide +kernel
theorem dX9_init_100 : decode cX9_init 100 = .ok (.invokespecial 59, 3) := by decide +kernel
theorem dX9_init_103 : decode cX9_init 103 = .ok (.putfield 60, 3) := by decide +kernel
theorem dX9_init_106 : decode cX9_init 106 = .ok (.aload_n 0, 1) := by decide +kernel
theorem dX9_init_107 : decode cX9_init 107 = .ok (.new 64, 3) := by decide +kernel
theorem dX9_init_110 : decode cX9_init 110 = .ok (.dup, 1) := by decide +kernel
theorem dX9_init_111 : decode cX9_init 111 = .ok (.invokespecial 66, 3) := by decide +kernel
theorem dX9_init_114 : decode cX9_init 114 = .ok (.putfield 67, 3) := by decide +kernel
theorem dX9_init_117 : decode cX9_init 117 = .ok (.aload_n 0, 1) := by decide +kernel
theorem dX9_init_118 : decode cX9_init 118 = .ok (.new 71, 3) := by decide +kernel
theorem dX9_init_121 : decode cX9_init 121 = .ok (.dup, 1) := by decide +kernel
theorem dX9_init_122 : decode cX9_init 122 = .ok (.invokespecial 73, 3) := by decide +kernel
theorem dX9_init_125 : decode cX9_init 125 = .ok (.putfield 74, 3) := by decide +kernel
theorem dX9_init_128 : decode cX9_init 128 = .ok (.iconst 0, 1) := by decide +kernel
theorem dX9_init_129 : decode cX9_init 129 = .ok (.istore_n 1, 1) := by decide +kernel
theorem dX9_init_130 : decode cX9_init 130 = .ok (.iload_n 1, 1) := by decide +kernel
theorem dX9_init_131 : decode cX9_init 131 = .ok (.bipush 8, 2) := by decide +kernel
theorem dX9_init_133 : decode cX9_init 133 = .ok (.if_icmp .ge 22, 3) := by decide +kernel
theorem dX9_init_136 : decode cX9_init 136 = .ok (.aload_n 0, 1) := by decide +kernel
theorem dX9_init_137 : decode cX9_init 137 = .ok (.getfield 11, 3) := by decide +kernel
theorem dX9_init_140 : decode cX9_init 140 = .ok (.iload_n 1, 1) := by decide +kernel
theorem dX9_init_141 : decode cX9_init 141 = .ok (.new 9, 3) := by decide +kernel
theorem dX9_init_144 : decode cX9_init 144 = .ok (.dup, 1) := by decide +kernel
theorem dX9_init_145 : decode cX9_init 145 = .ok (.invokespecial 78, 3) := by decide +kernel
theorem dX9_init_148 : decode cX9_init 148 = .ok (.aastore, 1) := by decide +kernel
theorem dX9_init_149 : decode cX9_init 149 = .ok (.iinc 1 1, 3) := by decide +kernel
theorem dX9_init_152 : decode cX9_init 152 = .ok (.goto (-22), 3) := by decide +kernel
theorem dX9_init_155 : decode cX9_init 155 = .ok (.iconst 0, 1) := by decide +kernel
theorem dX9_init_156 : decode cX9_init 156 = .ok (.istore_n 1, 1) := by decide +kernel
theorem dX9_init_157 : decode cX9_init 157 = .ok (.iload_n 1, 1) := by decide +kernel
theorem dX9_init_158 : decode cX9_init 158 = .ok (.iconst 2, 1) := by decide +kernel
theorem dX9_init_159 : decode cX9_init 159 = .ok (.if_icmp .ge 35, 3) := by decide +kernel
theorem dX9_init_162 : decode cX9_init 162 = .ok (.aload_n 0, 1) := by decide +kernel
theorem dX9_init_163 : decode cX9_init 163 = .ok (.getfield 42, 3) := by decide +kernel
theorem dX9_init_166 : decode cX9_init 166 = .ok (.iload_n 1, 1) := by decide +kernel
theorem dX9_init_167 : decode cX9_init 167 = .ok (.new 22, 3) := by decide +kernel
theorem dX9_init_170 : decode cX9_init 170 = .ok (.dup, 1) := by decide +kernel
theorem dX9_init_171 : decode cX9_init 171 = .ok (.invokespecial 24, 3) := by decide +kernel
theorem dX9_init_174 : decode cX9_init 174 = .ok (.aastore, 1) := by decide +kernel
theorem dX9_init_175 : decode cX9_init 175 = .ok (.aload_n 0, 1) := by decide +kernel
theorem dX9_init_176 : decode cX9_init 176 = .ok (.getfield 46, 3) := by decide +kernel
theorem dX9_init_179 : decode cX9_init 179 = .ok (.iload_n 1, 1) := by decide +kernel
theorem dX9_init_180 : decode cX9_init 180 = .ok (.new 32, 3) := by decide +kernel
theorem dX9_init_183 : decode cX9_init 183 = .ok (.dup, 1) := by decide +kernel
theorem dX9_init_184 : decode cX9_init 184 = .ok (.invokespecial 34, 3) := by decide +kernel
theorem dX9_init_187 : decode cX9_init 187 = .ok (.aastore, 1) := by decide +kernel
theorem dX9_init_188 : decode cX9_init 188 = .ok (.iinc 1 1, 3) := by decide +kernel
theorem dX9_init_191 : decode cX9_init 191 = .ok (.goto (-34), 3) := by decide +kernel
theorem dX9_init_194 : decode cX9_init 194 = .ok (.return_, 1) := by decide +kernel
theorem dX9_sheet_0 : decode cX9_sheet 0 = .ok (.iload_n 1, 1) := by decide +kernel
theorem dX9_sheet_1 : decode cX9_sheet 1 = .ok (.bipush 8, 2) := by decide +kernel
theorem dX9_sheet_3 : decode cX9_sheet 3 = .ok (.invokestatic 79, 3) := by decide +kernel
theorem dX9_sheet_6 : decode cX9_sheet 6 = .ok (.ifCond .eq 17, 3) := by decide +kernel
theorem dX9_sheet_9 : decode cX9_sheet 9 = .ok (.iload_n 2, 1) := by decide +kernel
theorem dX9_sheet_10 : decode cX9_sheet 10 = .ok (.iconst 3, 1) := by decide +kernel
theorem dX9_sheet_11 : decode cX9_sheet 11 = .ok (.invokestatic 79, 3) := by decide +kernel
theorem dX9_sheet_14 : decode cX9_sheet 14 = .ok (.ifCond .eq 9, 3) := by decide +kernel
theorem dX9_sheet_17 : decode cX9_sheet 17 = .ok (.iload_n 3, 1) := by decide +kernel
theorem dX9_sheet_18 : decode cX9_sheet 18 = .ok (.bipush 40, 2) := by decide +kernel
theorem dX9_sheet_20 : decode cX9_sheet 20 = .ok (.if_icmp .le 6, 3) := by decide +kernel
theorem dX9_sheet_23 : decode cX9_sheet 23 = .ok (.ldc 83, 2) := by decide +kernel
theorem dX9_sheet_25 : decode cX9_sheet 25 = .ok (.ireturn, 1) := by decide +kernel
theorem dX9_sheet_26 : decode cX9_sheet 26 = .ok (.iload_n 3, 1) := by decide +kernel
theorem dX9_sheet_27 : decode cX9_sheet 27 = .ok (.ifCond .ge 9, 3) := by decide +kernel
theorem dX9_sheet_30 : decode cX9_sheet 30 = .ok (.aload_n 0, 1) := by decide +kernel
theorem dX9_sheet_31 : decode cX9_sheet 31 = .ok (.iconst 4, 1) := by decide +kernel
theorem dX9_sheet_32 : decode cX9_sheet 32 = .ok (.invokevirtual 84, 3) := by decide +kernel
theorem dX9_sheet_35 : decode cX9_sheet 35 = .ok (.ireturn, 1) := by decide +kernel
theorem dX9_sheet_36 : decode cX9_sheet 36 = .ok (.aload_n 0, 1) := by decide +kernel
theorem dX9_sheet_37 : decode cX9_sheet 37 = .ok (.getfield 11, 3) := by decide +kernel
theorem dX9_sheet_40 : decode cX9_sheet 40 = .ok (.iload_n 1, 1) := by decide +kernel
theorem dX9_sheet_41 : decode cX9_sheet 41 = .ok (.aaload, 1) := by decide +kernel
theorem dX9_sheet_42 : decode cX9_sheet 42 = .ok (.iload_n 2, 1) := by decide +kernel
theorem dX9_sheet_43 : decode cX9_sheet 43 = .ok (.iload_n 3, 1) := by decide +kernel
theorem dX9_sheet_44 : decode cX9_sheet 44 = .ok (.invokevirtual 88, 3) := by decide +kernel
theorem dX9_sheet_47 : decode cX9_sheet 47 = .ok (.aload_n 0, 1) := by decide +kernel
theorem dX9_sheet_48 : decode cX9_sheet 48 = .ok (.iload_n 3, 1) := by decide +kernel
theorem dX9_sheet_49 : decode cX9_sheet 49 = .ok (.invokevirtual 92, 3) := by decide +kernel
theorem dX9_sheet_52 : decode cX9_sheet 52 = .ok (.ireturn, 1) := by decide +kernel
theorem dX9_set_0 : decode cX9_set 0 = .ok (.iload_n 1, 1) := by decide +kernel
theorem dX9_set_1 : decode cX9_set 1 = .ok (.bipush 8, 2) := by decide +kernel
theorem dX9_set_3 : decode cX9_set 3 = .ok (.invokestatic 79, 3) := by decide +kernel
theorem dX9_set_6 : decode cX9_set 6 = .ok (.ifCond .ne 6, 3) := by decide +kernel
theorem dX9_set_9 : decode cX9_set 9 = .ok (.ldc 83, 2) := by decide +kernel
theorem dX9_set_11 : decode cX9_set 11 = .ok (.ireturn, 1) := by decide +kernel
theorem dX9_set_12 : decode cX9_set 12 = .ok (.aload_n 0, 1) := by decide +kernel
theorem dX9_set_13 : decode cX9_set 13 = .ok (.getfield 11, 3) := by decide +kernel
theorem dX9_set_16 : decode cX9_set 16 = .ok (.iload_n 1, 1) := by decide +kernel
theorem dX9_set_17 : decode cX9_set 17 = .ok (.aaload, 1) := by decide +kernel
theorem dX9_set_18 : decode cX9_set 18 = .ok (.astore 4, 2) := by decide +kernel
theorem dX9_set_20 : decode cX9_set 20 = .ok (.aload 4, 2) := by decide +kernel
theorem dX9_set_22 : decode cX9_set 22 = .ok (.getfield 95, 3) := by decide +kernel
theorem dX9_set_25 : decode cX9_set 25 = .ok (.ifCond .eq 9, 3) := by decide +kernel
theorem dX9_set_28 : decode cX9_set 28 = .ok (.aload_n 0, 1) := by decide +kernel
theorem dX9_set_29 : decode cX9_set 29 = .ok (.iconst 1, 1) := by decide +kernel
theorem dX9_set_30 : decode cX9_set 30 = .ok (.invokevirtual 84, 3) := by decide +kernel
theorem dX9_set_33 : decode cX9_set 33 = .ok (.ireturn, 1) := by decide +kernel
theorem dX9_set_34 : decode cX9_set 34 = .ok (.aload 4, 2) := by decide +kernel
theorem dX9_set_36 : decode cX9_set 36 = .ok (.iload_n 2, 1) := by decide +kernel
theorem dX9_set_37 : decode cX9_set 37 = .ok (.iconst 1, 1) := by decide +kernel
theorem dX9_set_38 : decode cX9_set 38 = .ok (.invokevirtual 99, 3) := by decide +kernel
theorem dX9_set_41 : decode cX9_set 41 = .ok (.ifCond .ne 9, 3) := by decide +kernel
theorem dX9_set_44 : decode cX9_set 44 = .ok (.aload_n 0, 1) := by decide +kernel
theorem dX9_set_45 : decode cX9_set 45 = .ok (.iconst 2, 1) := by decide +kernel
theorem dX9_set_46 : decode cX9_set 46 = .ok (.invokevirtual 84, 3) := by decide +kernel
theorem dX9_set_49 : decode cX9_set 49 = .ok (.ireturn, 1) := by decide +kernel
theorem dX9_set_50 : decode cX9_set 50 = .ok (.aload 4, 2) := by decide +kernel
theorem dX9_set_52 : decode cX9_set 52 = .ok (.getfield 102, 3) := by decide +kernel
theorem dX9_set_55 : decode cX9_set 55 = .ok (.iload_n 2, 1) := by decide +kernel
theorem dX9_set_56 : decode cX9_set 56 = .ok (.aload 4, 2) := by decide +kernel
theorem dX9_set_58 : decode cX9_set 58 = .ok (.iload_n 3, 1) := by decide +kernel
theorem dX9_set_59 : decode cX9_set 59 = .ok (.invokevirtual 106, 3) := by decide +kernel
theorem dX9_set_62 : decode cX9_set 62 = .ok (.iastore, 1) := by decide +kernel
theorem dX9_set_63 : decode cX9_set 63 = .ok (.aload_n 0, 1) := by decide +kernel
theorem dX9_set_64 : decode cX9_set 64 = .ok (.aload 4, 2) := by decide +kernel
theorem dX9_set_66 : decode cX9_set 66 = .ok (.getfield 102, 3) := by decide +kernel
theorem dX9_set_69 : decode cX9_set 69 = .ok (.iload_n 2, 1) := by decide +kernel
theorem dX9_set_70 : decode cX9_set 70 = .ok (.iaload, 1) := by decide +kernel
theorem dX9_set_71 : decode cX9_set 71 = .ok (.invokevirtual 92, 3) := by decide +kernel
theorem dX9_set_74 : decode cX9_set 74 = .ok (.ireturn, 1) := by decide +kernel
theorem dX9_copy_0 : decode cX9_copy 0 = .ok (.iload_n 1, 1) := by decide +kernel
theorem dX9_copy_1 : decode cX9_copy 1 = .ok (.bipush 8, 2) := by decide +kernel
theorem dX9_copy_3 : decode cX9_copy 3 = .ok (.invokestatic 79, 3) := by decide +kernel
theorem dX9_copy_6 : decode cX9_copy 6 = .ok (.ifCond .eq 12, 3) := by decide +kernel
theorem dX9_copy_9 : decode cX9_copy 9 = .ok (.iload_n 3, 1) := by decide +kernel
theorem dX9_copy_10 : decode cX9_copy 10 = .ok (.bipush 8, 2) := by decide +kernel
theorem dX9_copy_12 : decode cX9_copy 12 = .ok (.invokestatic 79, 3) := by decide +kernel
theorem dX9_copy_15 : decode cX9_copy 15 = .ok (.ifCond .ne 6, 3) := by decide +kernel
theorem dX9_copy_18 : decode cX9_copy 18 = .ok (.ldc 83, 2) := by decide +kernel
theorem dX9_copy_20 : decode cX9_copy 20 = .ok (.ireturn, 1) := by decide +kernel
theorem dX9_copy_21 : decode cX9_copy 21 = .ok (.aload_n 0, 1) := by decide +kernel
theorem dX9_copy_22 : decode cX9_copy 22 = .ok (.getfield 11, 3) := by decide +kernel
theorem dX9_copy_25 : decode cX9_copy 25 = .ok (.iload_n 1, 1) := by decide +kernel
theorem dX9_copy_26 : decode cX9_copy 26 = .ok (.aaload, 1) := by decide +kernel
theorem dX9_copy_27 : decode cX9_copy 27 = .ok (.astore 6, 2) := by decide +kernel
theorem dX9_copy_29 : decode cX9_copy 29 = .ok (.aload_n 0, 1) := by decide +kernel
theorem dX9_copy_30 : decode cX9_copy 30 = .ok (.getfield 11, 3) := by decide +kernel
theorem dX9_copy_33 : decode cX9_copy 33 = .ok (.iload_n 3, 1) := by decide +kernel
theorem dX9_copy_34 : decode cX9_copy 34 = .ok (.aaload, 1) := by decide +kernel
theorem dX9_copy_35 : decode cX9_copy 35 = .ok (.astore 7, 2) := by decide +kernel
theorem dX9_copy_37 : decode cX9_copy 37 = .ok (.aload 6, 2) := by decide +kernel
theorem dX9_copy_39 : decode cX9_copy 39 = .ok (.getfield 95, 3) := by decide +kernel
theorem dX9_copy_42 : decode cX9_copy 42 = .ok (.ifCond .ne 11, 3) := by decide +kernel
theorem dX9_copy_45 : decode cX9_copy 45 = .ok (.aload 7, 2) := by decide +kernel
theorem dX9_copy_47 : decode cX9_copy 47 = .ok (.getfield 95, 3) := by decide +kernel
theorem dX9_copy_50 : decode cX9_copy 50 = .ok (.ifCond .eq 9, 3) := by decide +kernel
theorem dX9_copy_53 : decode cX9_copy 53 = .ok (.aload_n 0, 1) := by decide +kernel
theorem dX9_copy_54 : decode cX9_copy 54 = .ok (.iconst 1, 1) := by decide +kernel
theorem dX9_copy_55 : decode cX9_copy 55 = .ok (.invokevirtual 84, 3) := by decide +kernel
theorem dX9_copy_58 : decode cX9_copy 58 = .ok (.ireturn, 1) := by decide +kernel
theorem dX9_copy_59 : decode cX9_copy 59 = .ok (.aload 6, 2) := by decide +kernel
theorem dX9_copy_61 : decode cX9_copy 61 = .ok (.getfield 109, 3) := by decide +kernel
theorem dX9_copy_64 : decode cX9_copy 64 = .ok (.aload 7, 2) := by decide +kernel
theorem dX9_copy_66 : decode cX9_copy 66 = .ok (.getfield 109, 3) := by decide +kernel
theorem dX9_copy_69 : decode cX9_copy 69 = .ok (.if_icmp .eq 9, 3) := by decide +kernel
theorem dX9_copy_72 : decode cX9_copy 72 = .ok (.aload_n 0, 1) := by decide +kernel
theorem dX9_copy_73 : decode cX9_copy 73 = .ok (.iconst 5, 1) := by decide +kernel
theorem dX9_copy_74 : decode cX9_copy 74 = .ok (.invokevirtual 84, 3) := by decide +kernel
theorem dX9_copy_77 : decode cX9_copy 77 = .ok (.ireturn, 1) := by decide +kernel
theorem dX9_copy_78 : decode cX9_copy 78 = .ok (.aload 6, 2) := by decide +kernel
theorem dX9_copy_80 : decode cX9_copy 80 = .ok (.iload_n 2, 1) := by decide +kernel
theorem dX9_copy_81 : decode cX9_copy 81 = .ok (.iload 5, 2) := by decide +kernel
theorem dX9_copy_83 : decode cX9_copy 83 = .ok (.invokevirtual 99, 3) := by decide +kernel
theorem dX9_copy_86 : decode cX9_copy 86 = .ok (.ifCond .eq 15, 3) := by decide +kernel
theorem dX9_copy_89 : decode cX9_copy 89 = .ok (.aload 7, 2) := by decide +kernel
theorem dX9_copy_91 : decode cX9_copy 91 = .ok (.iload 4, 2) := by decide +kernel
theorem dX9_copy_93 : decode cX9_copy 93 = .ok (.iload 5, 2) := by decide +kernel
theorem dX9_copy_95 : decode cX9_copy 95 = .ok (.invokevirtual 99, 3) := by decide +kernel
theorem dX9_copy_98 : decode cX9_copy 98 = .ok (.ifCond .ne 9, 3) := by decide +kernel
theorem dX9_copy_101 : decode cX9_copy 101 = .ok (.aload_n 0, 1) := by decide +kernel
theorem dX9_copy_102 : decode cX9_copy 102 = .ok (.iconst 2, 1) := by decide +kernel
theorem dX9_copy_103 : decode cX9_copy 103 = .ok (.invokevirtual 84, 3) := by decide +kernel
theorem dX9_copy_106 : decode cX9_copy 106 = .ok (.ireturn, 1) := by decide +kernel
theorem dX9_copy_107 : decode cX9_copy 107 = .ok (.aload 6, 2) := by decide +kernel
theorem dX9_copy_109 : decode cX9_copy 109 = .ok (.getfield 102, 3) := by decide +kernel
theorem dX9_copy_112 : decode cX9_copy 112 = .ok (.iload_n 2, 1) := by decide +kernel
theorem dX9_copy_113 : decode cX9_copy 113 = .ok (.aload 7, 2) := by decide +kernel
theorem dX9_copy_115 : decode cX9_copy 115 = .ok (.getfield 102, 3) := by decide +kernel
theorem dX9_copy_118 : decode cX9_copy 118 = .ok (.iload 4, 2) := by decide +kernel
theorem dX9_copy_120 : decode cX9_copy 120 = .ok (.iload 5, 2) := by decide +kernel
theorem dX9_copy_122 : decode cX9_copy 122 = .ok (.invokestatic 113, 3) := by decide +kernel
theorem dX9_copy_125 : decode cX9_copy 125 = .ok (.aload_n 0, 1) := by decide +kernel
theorem dX9_copy_126 : decode cX9_copy 126 = .ok (.iload 5, 2) := by decide +kernel
theorem dX9_copy_128 : decode cX9_copy 128 = .ok (.invokevirtual 92, 3) := by decide +kernel
theorem dX9_copy_131 : decode cX9_copy 131 = .ok (.ireturn, 1) := by decide +kernel
theorem dX9_drop_0 : decode cX9_drop 0 = .ok (.iload_n 1, 1) := by decide +kernel
theorem dX9_drop_1 : decode cX9_drop 1 = .ok (.bipush 8, 2) := by decide +kernel
theorem dX9_drop_3 : decode cX9_drop 3 = .ok (.invokestatic 79, 3) := by decide +kernel
theorem dX9_drop_6 : decode cX9_drop 6 = .ok (.ifCond .ne 6, 3) := by decide +kernel
theorem dX9_drop_9 : decode cX9_drop 9 = .ok (.ldc 83, 2) := by decide +kernel
theorem dX9_drop_11 : decode cX9_drop 11 = .ok (.ireturn, 1) := by decide +kernel
theorem dX9_drop_12 : decode cX9_drop 12 = .ok (.aload_n 0, 1) := by decide +kernel
theorem dX9_drop_13 : decode cX9_drop 13 = .ok (.getfield 11, 3) := by decide +kernel
theorem dX9_drop_16 : decode cX9_drop 16 = .ok (.iload_n 1, 1) := by decide +kernel
theorem dX9_drop_17 : decode cX9_drop 17 = .ok (.aaload, 1) := by decide +kernel
theorem dX9_drop_18 : decode cX9_drop 18 = .ok (.astore_n 2, 1) := by decide +kernel
theorem dX9_drop_19 : decode cX9_drop 19 = .ok (.aload_n 2, 1) := by decide +kernel
theorem dX9_drop_20 : decode cX9_drop 20 = .ok (.getfield 95, 3) := by decide +kernel
theorem dX9_drop_23 : decode cX9_drop 23 = .ok (.ifCond .eq 9, 3) := by decide +kernel
theorem dX9_drop_26 : decode cX9_drop 26 = .ok (.aload_n 0, 1) := by decide +kernel
theorem dX9_drop_27 : decode cX9_drop 27 = .ok (.iconst 1, 1) := by decide +kernel
theorem dX9_drop_28 : decode cX9_drop 28 = .ok (.invokevirtual 84, 3) := by decide +kernel
theorem dX9_drop_31 : decode cX9_drop 31 = .ok (.ireturn, 1) := by decide +kernel
theorem dX9_drop_32 : decode cX9_drop 32 = .ok (.aload_n 2, 1) := by decide +kernel
theorem dX9_drop_33 : decode cX9_drop 33 = .ok (.iconst 1, 1) := by decide +kernel
theorem dX9_drop_34 : decode cX9_drop 34 = .ok (.putfield 95, 3) := by decide +kernel
theorem dX9_drop_37 : decode cX9_drop 37 = .ok (.aload_n 0, 1) := by decide +kernel
theorem dX9_drop_38 : decode cX9_drop 38 = .ok (.aload_n 2, 1) := by decide +kernel
theorem dX9_drop_39 : decode cX9_drop 39 = .ok (.getfield 119, 3) := by decide +kernel
theorem dX9_drop_42 : decode cX9_drop 42 = .ok (.invokevirtual 92, 3) := by decide +kernel
theorem dX9_drop_45 : decode cX9_drop 45 = .ok (.ireturn, 1) := by decide +kernel
theorem dX9_feed_0 : decode cX9_feed 0 = .ok (.iload_n 3, 1) := by decide +kernel
theorem dX9_feed_1 : decode cX9_feed 1 = .ok (.iconst 1, 1) := by decide +kernel
theorem dX9_feed_2 : decode cX9_feed 2 = .ok (.if_icmp .lt 9, 3) := by decide +kernel
theorem dX9_feed_5 : decode cX9_feed 5 = .ok (.iload_n 3, 1) := by decide +kernel
theorem dX9_feed_6 : decode cX9_feed 6 = .ok (.bipush 8, 2) := by decide +kernel
theorem dX9_feed_8 : decode cX9_feed 8 = .ok (.if_icmp .le 6, 3) := by decide +kernel
theorem dX9_feed_11 : decode cX9_feed 11 = .ok (.ldc 83, 2) := by decide +kernel
theorem dX9_feed_13 : decode cX9_feed 13 = .ok (.ireturn, 1) := by decide +kernel
theorem dX9_feed_14 : decode cX9_feed 14 = .ok (.aload_n 0, 1) := by decide +kernel
theorem dX9_feed_15 : decode cX9_feed 15 = .ok (.getfield 18, 3) := by decide +kernel
theorem dX9_feed_18 : decode cX9_feed 18 = .ok (.lload_n 1, 1) := by decide +kernel
theorem dX9_feed_19 : decode cX9_feed 19 = .ok (.iload_n 3, 1) := by decide +kernel
theorem dX9_feed_20 : decode cX9_feed 20 = .ok (.invokevirtual 122, 3) := by decide +kernel
theorem dX9_feed_23 : decode cX9_feed 23 = .ok (.ifCond .eq 13, 3) := by decide +kernel
theorem dX9_feed_26 : decode cX9_feed 26 = .ok (.aload_n 0, 1) := by decide +kernel
theorem dX9_feed_27 : decode cX9_feed 27 = .ok (.getfield 18, 3) := by decide +kernel
theorem dX9_feed_30 : decode cX9_feed 30 = .ok (.getfield 126, 3) := by decide +kernel
theorem dX9_feed_33 : decode cX9_feed 33 = .ok (.goto 5, 3) := by decide +kernel
theorem dX9_feed_36 : decode cX9_feed 36 = .ok (.ldc 129, 2) := by decide +kernel
theorem dX9_feed_38 : decode cX9_feed 38 = .ok (.ireturn, 1) := by decide +kernel
theorem dX9_match_0 : decode cX9_match 0 = .ok (.aload_n 0, 1) := by decide +kernel
theorem dX9_match_1 : decode cX9_match 1 = .ok (.getfield 18, 3) := by decide +kernel
theorem dX9_match_4 : decode cX9_match 4 = .ok (.aload_n 0, 1) := by decide +kernel
theorem dX9_match_5 : decode cX9_match 5 = .ok (.getfield 29, 3) := by decide +kernel
theorem dX9_match_8 : decode cX9_match 8 = .ok (.invokevirtual 130, 3) := by decide +kernel
theorem dX9_match_11 : decode cX9_match 11 = .ok (.istore_n 1, 1) := by decide +kernel
theorem dX9_match_12 : decode cX9_match 12 = .ok (.aload_n 0, 1) := by decide +kernel
theorem dX9_match_13 : decode cX9_match 13 = .ok (.getfield 18, 3) := by decide +kernel
theorem dX9_match_16 : decode cX9_match 16 = .ok (.iconst 0, 1) := by decide +kernel
theorem dX9_match_17 : decode cX9_match 17 = .ok (.putfield 126, 3) := by decide +kernel
theorem dX9_match_20 : decode cX9_match 20 = .ok (.iload_n 1, 1) := by decide +kernel
theorem dX9_match_21 : decode cX9_match 21 = .ok (.ifCond .ne 25, 3) := by decide +kernel
theorem dX9_match_24 : decode cX9_match 24 = .ok (.aload_n 0, 1) := by decide +kernel
theorem dX9_match_25 : decode cX9_match 25 = .ok (.aload_n 0, 1) := by decide +kernel
theorem dX9_match_26 : decode cX9_match 26 = .ok (.getfield 18, 3) := by decide +kernel
theorem dX9_match_29 : decode cX9_match 29 = .ok (.getfield 134, 3) := by decide +kernel
theorem dX9_match_32 : decode cX9_match 32 = .ok (.putfield 137, 3) := by decide +kernel
theorem dX9_match_35 : decode cX9_match 35 = .ok (.ldc 140, 2) := by decide +kernel
theorem dX9_match_37 : decode cX9_match 37 = .ok (.aload_n 0, 1) := by decide +kernel
theorem dX9_match_38 : decode cX9_match 38 = .ok (.getfield 18, 3) := by decide +kernel
theorem dX9_match_41 : decode cX9_match 41 = .ok (.getfield 141, 3) := by decide +kernel
theorem dX9_match_44 : decode cX9_match 44 = .ok (.isub, 1) := by decide +kernel
theorem dX9_match_45 : decode cX9_match 45 = .ok (.ireturn, 1) := by decide +kernel
theorem dX9_match_46 : decode cX9_match 46 = .ok (.aload_n 0, 1) := by decide +kernel
theorem dX9_match_47 : decode cX9_match 47 = .ok (.getfield 25, 3) := by decide +kernel
theorem dX9_match_50 : decode cX9_match 50 = .ok (.aload_n 0, 1) := by decide +kernel
theorem dX9_match_51 : decode cX9_match 51 = .ok (.getfield 29, 3) := by decide +kernel
theorem dX9_match_54 : decode cX9_match 54 = .ok (.invokevirtual 144, 3) := by decide +kernel
theorem dX9_match_57 : decode cX9_match 57 = .ok (.aload_n 0, 1) := by decide +kernel
theorem dX9_match_58 : decode cX9_match 58 = .ok (.getfield 35, 3) := by decide +kernel
theorem dX9_match_61 : decode cX9_match 61 = .ok (.aload_n 0, 1) := by decide +kernel
theorem dX9_match_62 : decode cX9_match 62 = .ok (.getfield 25, 3) := by decide +kernel
theorem dX9_match_65 : decode cX9_match 65 = .ok (.invokevirtual 148, 3) := by decide +kernel
theorem dX9_match_68 : decode cX9_match 68 = .ok (.aload_n 0, 1) := by decide +kernel
theorem dX9_match_69 : decode cX9_match 69 = .ok (.getfield 25, 3) := by decide +kernel
theorem dX9_match_72 : decode cX9_match 72 = .ok (.invokevirtual 151, 3) := by decide +kernel
theorem dX9_match_75 : decode cX9_match 75 = .ok (.ireturn, 1) := by decide +kernel
theorem dX9_fault_0 : decode cX9_fault 0 = .ok (.aload_n 0, 1) := by decide +kernel
theorem dX9_fault_1 : decode cX9_fault 1 = .ok (.getfield 137, 3) := by decide +kernel
theorem dX9_fault_4 : decode cX9_fault 4 = .ok (.ireturn, 1) := by decide +kernel
theorem dX9_puller_0 : decode cX9_puller 0 = .ok (.aload_n 0, 1) := by decide +kernel
theorem dX9_puller_1 : decode cX9_puller 1 = .ok (.iload_n 1, 1) := by decide +kernel
theorem dX9_puller_2 : decode cX9_puller 2 = .ok (.iload_n 2, 1) := by decide +kernel
theorem dX9_puller_3 : decode cX9_puller 3 = .ok (.invokevirtual 155, 3) := by decide +kernel
theorem dX9_puller_6 : decode cX9_puller 6 = .ok (.ifCond .eq 11, 3) := by decide +kernel
theorem dX9_puller_9 : decode cX9_puller 9 = .ok (.iload_n 3, 1) := by decide +kernel
theorem dX9_puller_10 : decode cX9_puller 10 = .ok (.iconst 5, 1) := by decide +kernel
theorem dX9_puller_11 : decode cX9_puller 11 = .ok (.invokestatic 79, 3) := by decide +kernel
theorem dX9_puller_14 : decode cX9_puller 14 = .ok (.ifCond .ne 6, 3) := by decide +kernel
theorem dX9_puller_17 : decode cX9_puller 17 = .ok (.ldc 83, 2) := by decide +kernel
theorem dX9_puller_19 : decode cX9_puller 19 = .ok (.ireturn, 1) := by decide +kernel
theorem dX9_puller_20 : decode cX9_puller 20 = .ok (.aload_n 0, 1) := by decide +kernel
theorem dX9_puller_21 : decode cX9_puller 21 = .ok (.getfield 25, 3) := by decide +kernel
theorem dX9_puller_24 : decode cX9_puller 24 = .ok (.getfield 158, 3) := by decide +kernel
theorem dX9_puller_27 : decode cX9_puller 27 = .ok (.iload_n 1, 1) := by decide +kernel
theorem dX9_puller_28 : decode cX9_puller 28 = .ok (.aaload, 1) := by decide +kernel
theorem dX9_puller_29 : decode cX9_puller 29 = .ok (.getfield 162, 3) := by decide +kernel
theorem dX9_puller_32 : decode cX9_puller 32 = .ok (.iload_n 2, 1) := by decide +kernel
theorem dX9_puller_33 : decode cX9_puller 33 = .ok (.aaload, 1) := by decide +kernel
theorem dX9_puller_34 : decode cX9_puller 34 = .ok (.iload_n 3, 1) := by decide +kernel
theorem dX9_puller_35 : decode cX9_puller 35 = .ok (.iaload, 1) := by decide +kernel
theorem dX9_puller_36 : decode cX9_puller 36 = .ok (.ireturn, 1) := by decide +kernel
theorem dX9_begin_0 : decode cX9_begin 0 = .ok (.iload_n 1, 1) := by decide +kernel
theorem dX9_begin_1 : decode cX9_begin 1 = .ok (.iconst 2, 1) := by decide +kernel
theorem dX9_begin_2 : decode cX9_begin 2 = .ok (.invokestatic 79, 3) := by decide +kernel
theorem dX9_begin_5 : decode cX9_begin 5 = .ok (.ifCond .ne 6, 3) := by decide +kernel
theorem dX9_begin_8 : decode cX9_begin 8 = .ok (.ldc 83, 2) := by decide +kernel
theorem dX9_begin_10 : decode cX9_begin 10 = .ok (.ireturn, 1) := by decide +kernel
theorem dX9_begin_11 : decode cX9_begin 11 = .ok (.aload_n 0, 1) := by decide +kernel
theorem dX9_begin_12 : decode cX9_begin 12 = .ok (.getfield 25, 3) := by decide +kernel
theorem dX9_begin_15 : decode cX9_begin 15 = .ok (.getfield 168, 3) := by decide +kernel
theorem dX9_begin_18 : decode cX9_begin 18 = .ok (.ifCond .ne 6, 3) := by decide +kernel
theorem dX9_begin_21 : decode cX9_begin 21 = .ok (.ldc 171, 2) := by decide +kernel
theorem dX9_begin_23 : decode cX9_begin 23 = .ok (.ireturn, 1) := by decide +kernel
theorem dX9_begin_24 : decode cX9_begin 24 = .ok (.aload_n 0, 1) := by decide +kernel
theorem dX9_begin_25 : decode cX9_begin 25 = .ok (.getfield 35, 3) := by decide +kernel
theorem dX9_begin_28 : decode cX9_begin 28 = .ok (.aload_n 0, 1) := by decide +kernel
theorem dX9_begin_29 : decode cX9_begin 29 = .ok (.getfield 25, 3) := by decide +kernel
theorem dX9_begin_32 : decode cX9_begin 32 = .ok (.iload_n 1, 1) := by decide +kernel
theorem dX9_begin_33 : decode cX9_begin 33 = .ok (.invokevirtual 172, 3) := by decide +kernel
theorem dX9_begin_36 : decode cX9_begin 36 = .ok (.iconst 1, 1) := by decide +kernel
theorem dX9_begin_37 : decode cX9_begin 37 = .ok (.ireturn, 1) := by decide +kernel
theorem dX9_go_0 : decode cX9_go 0 = .ok (.iload_n 1, 1) := by decide +kernel
theorem dX9_go_1 : decode cX9_go 1 = .ok (.iconst 1, 1) := by decide +kernel
theorem dX9_go_2 : decode cX9_go 2 = .ok (.if_icmp .lt 9, 3) := by decide +kernel
theorem dX9_go_5 : decode cX9_go 5 = .ok (.iload_n 1, 1) := by decide +kernel
theorem dX9_go_6 : decode cX9_go 6 = .ok (.bipush 100, 2) := by decide +kernel
theorem dX9_go_8 : decode cX9_go 8 = .ok (.if_icmp .le 6, 3) := by decide +kernel
theorem dX9_go_11 : decode cX9_go 11 = .ok (.ldc 83, 2) := by decide +kernel
theorem dX9_go_13 : decode cX9_go 13 = .ok (.ireturn, 1) := by decide +kernel
theorem dX9_go_14 : decode cX9_go 14 = .ok (.aload_n 0, 1) := by decide +kernel
theorem dX9_go_15 : decode cX9_go 15 = .ok (.getfield 35, 3) := by decide +kernel
theorem dX9_go_18 : decode cX9_go 18 = .ok (.getfield 176, 3) := by decide +kernel
theorem dX9_go_21 : decode cX9_go 21 = .ok (.ifCond .ne 6, 3) := by decide +kernel
theorem dX9_go_24 : decode cX9_go 24 = .ok (.ldc 171, 2) := by decide +kernel
theorem dX9_go_26 : decode cX9_go 26 = .ok (.ireturn, 1) := by decide +kernel
theorem dX9_go_27 : decode cX9_go 27 = .ok (.aload_n 0, 1) := by decide +kernel
theorem dX9_go_28 : decode cX9_go 28 = .ok (.getfield 35, 3) := by decide +kernel
theorem dX9_go_31 : decode cX9_go 31 = .ok (.aload_n 0, 1) := by decide +kernel
theorem dX9_go_32 : decode cX9_go 32 = .ok (.getfield 25, 3) := by decide +kernel
theorem dX9_go_35 : decode cX9_go 35 = .ok (.iload_n 1, 1) := by decide +kernel
theorem dX9_go_36 : decode cX9_go 36 = .ok (.invokevirtual 179, 3) := by decide +kernel
theorem dX9_go_39 : decode cX9_go 39 = .ok (.ireturn, 1) := by decide +kernel
theorem dX9_told_0 : decode cX9_told 0 = .ok (.iload_n 1, 1) := by decide +kernel
theorem dX9_told_1 : decode cX9_told 1 = .ok (.bipush 8, 2) := by decide +kernel
theorem dX9_told_3 : decode cX9_told 3 = .ok (.invokestatic 79, 3) := by decide +kernel
theorem dX9_told_6 : decode cX9_told 6 = .ok (.ifCond .eq 14, 3) := by decide +kernel
theorem dX9_told_9 : decode cX9_told 9 = .ok (.iload_n 3, 1) := by decide +kernel
theorem dX9_told_10 : decode cX9_told 10 = .ok (.iconst 1, 1) := by decide +kernel
theorem dX9_told_11 : decode cX9_told 11 = .ok (.if_icmp .lt 9, 3) := by decide +kernel
theorem dX9_told_14 : decode cX9_told 14 = .ok (.iload_n 3, 1) := by decide +kernel
theorem dX9_told_15 : decode cX9_told 15 = .ok (.bipush 20, 2) := by decide +kernel
theorem dX9_told_17 : decode cX9_told 17 = .ok (.if_icmp .le 6, 3) := by decide +kernel
theorem dX9_told_20 : decode cX9_told 20 = .ok (.ldc 83, 2) := by decide +kernel
theorem dX9_told_22 : decode cX9_told 22 = .ok (.ireturn, 1) := by decide +kernel
theorem dX9_told_23 : decode cX9_told 23 = .ok (.aload_n 0, 1) := by decide +kernel
theorem dX9_told_24 : decode cX9_told 24 = .ok (.getfield 35, 3) := by decide +kernel
theorem dX9_told_27 : decode cX9_told 27 = .ok (.getfield 176, 3) := by decide +kernel
theorem dX9_told_30 : decode cX9_told 30 = .ok (.ifCond .ne 6, 3) := by decide +kernel
theorem dX9_told_33 : decode cX9_told 33 = .ok (.ldc 171, 2) := by decide +kernel
theorem dX9_told_35 : decode cX9_told 35 = .ok (.ireturn, 1) := by decide +kernel
theorem dX9_told_36 : decode cX9_told 36 = .ok (.aload_n 0, 1) := by decide +kernel
theorem dX9_told_37 : decode cX9_told 37 = .ok (.getfield 11, 3) := by decide +kernel
theorem dX9_told_40 : decode cX9_told 40 = .ok (.iload_n 1, 1) := by decide +kernel
theorem dX9_told_41 : decode cX9_told 41 = .ok (.aaload, 1) := by decide +kernel
theorem dX9_told_42 : decode cX9_told 42 = .ok (.astore 4, 2) := by decide +kernel
theorem dX9_told_44 : decode cX9_told 44 = .ok (.aload 4, 2) := by decide +kernel
theorem dX9_told_46 : decode cX9_told 46 = .ok (.getfield 95, 3) := by decide +kernel
theorem dX9_told_49 : decode cX9_told 49 = .ok (.ifCond .eq 9, 3) := by decide +kernel
theorem dX9_told_52 : decode cX9_told 52 = .ok (.aload_n 0, 1) := by decide +kernel
theorem dX9_told_53 : decode cX9_told 53 = .ok (.iconst 1, 1) := by decide +kernel
theorem dX9_told_54 : decode cX9_told 54 = .ok (.invokevirtual 84, 3) := by decide +kernel
theorem dX9_told_57 : decode cX9_told 57 = .ok (.ireturn, 1) := by decide +kernel
theorem dX9_told_58 : decode cX9_told 58 = .ok (.aload 4, 2) := by decide +kernel
theorem dX9_told_60 : decode cX9_told 60 = .ok (.iload_n 2, 1) := by decide +kernel
theorem dX9_told_61 : decode cX9_told 61 = .ok (.iconst 2, 1) := by decide +kernel
theorem dX9_told_62 : decode cX9_told 62 = .ok (.iload_n 3, 1) := by decide +kernel
theorem dX9_told_63 : decode cX9_told 63 = .ok (.imul, 1) := by decide +kernel
theorem dX9_told_64 : decode cX9_told 64 = .ok (.invokevirtual 99, 3) := by decide +kernel
theorem dX9_told_67 : decode cX9_told 67 = .ok (.ifCond .ne 9, 3) := by decide +kernel
theorem dX9_told_70 : decode cX9_told 70 = .ok (.aload_n 0, 1) := by decide +kernel
theorem dX9_told_71 : decode cX9_told 71 = .ok (.iconst 2, 1) := by decide +kernel
theorem dX9_told_72 : decode cX9_told 72 = .ok (.invokevirtual 84, 3) := by decide +kernel
theorem dX9_told_75 : decode cX9_told 75 = .ok (.ireturn, 1) := by decide +kernel
theorem dX9_told_76 : decode cX9_told 76 = .ok (.aload 4, 2) := by decide +kernel
theorem dX9_told_78 : decode cX9_told 78 = .ok (.iload_n 2, 1) := by decide +kernel
theorem dX9_told_79 : decode cX9_told 79 = .ok (.iconst 2, 1) := by decide +kernel
theorem dX9_told_80 : decode cX9_told 80 = .ok (.iload_n 3, 1) := by decide +kernel
theorem dX9_told_81 : decode cX9_told 81 = .ok (.imul, 1) := by decide +kernel
theorem dX9_told_82 : decode cX9_told 82 = .ok (.invokestatic 183, 3) := by decide +kernel
theorem dX9_told_85 : decode cX9_told 85 = .ok (.ifCond .ne 6, 3) := by decide +kernel
theorem dX9_told_88 : decode cX9_told 88 = .ok (.ldc 83, 2) := by decide +kernel
theorem dX9_told_90 : decode cX9_told 90 = .ok (.ireturn, 1) := by decide +kernel
theorem dX9_told_91 : decode cX9_told 91 = .ok (.aload_n 0, 1) := by decide +kernel
theorem dX9_told_92 : decode cX9_told 92 = .ok (.aload_n 0, 1) := by decide +kernel
theorem dX9_told_93 : decode cX9_told 93 = .ok (.getfield 35, 3) := by decide +kernel
theorem dX9_told_96 : decode cX9_told 96 = .ok (.aload_n 0, 1) := by decide +kernel
theorem dX9_told_97 : decode cX9_told 97 = .ok (.getfield 25, 3) := by decide +kernel
theorem dX9_told_100 : decode cX9_told 100 = .ok (.aload 4, 2) := by decide +kernel
theorem dX9_told_102 : decode cX9_told 102 = .ok (.iload_n 2, 1) := by decide +kernel
theorem dX9_told_103 : decode cX9_told 103 = .ok (.iload_n 3, 1) := by decide +kernel
theorem dX9_told_104 : decode cX9_told 104 = .ok (.invokevirtual 187, 3) := by decide +kernel
theorem dX9_told_107 : decode cX9_told 107 = .ok (.invokevirtual 92, 3) := by decide +kernel
theorem dX9_told_110 : decode cX9_told 110 = .ok (.ireturn, 1) := by decide +kernel
theorem dX9_pull_0 : decode cX9_pull 0 = .ok (.iload_n 1, 1) := by decide +kernel
theorem dX9_pull_1 : decode cX9_pull 1 = .ok (.bipush 7, 2) := by decide +kernel
theorem dX9_pull_3 : decode cX9_pull 3 = .ok (.invokestatic 79, 3) := by decide +kernel
theorem dX9_pull_6 : decode cX9_pull 6 = .ok (.ifCond .ne 6, 3) := by decide +kernel
theorem dX9_pull_9 : decode cX9_pull 9 = .ok (.ldc 83, 2) := by decide +kernel
theorem dX9_pull_11 : decode cX9_pull 11 = .ok (.ireturn, 1) := by decide +kernel
theorem dX9_pull_12 : decode cX9_pull 12 = .ok (.aload_n 0, 1) := by decide +kernel
theorem dX9_pull_13 : decode cX9_pull 13 = .ok (.getfield 35, 3) := by decide +kernel
theorem dX9_pull_16 : decode cX9_pull 16 = .ok (.getfield 176, 3) := by decide +kernel
theorem dX9_pull_19 : decode cX9_pull 19 = .ok (.ifCond .eq 14, 3) := by decide +kernel
theorem dX9_pull_22 : decode cX9_pull 22 = .ok (.aload_n 0, 1) := by decide +kernel
theorem dX9_pull_23 : decode cX9_pull 23 = .ok (.getfield 35, 3) := by decide +kernel
theorem dX9_pull_26 : decode cX9_pull 26 = .ok (.iload_n 1, 1) := by decide +kernel
theorem dX9_pull_27 : decode cX9_pull 27 = .ok (.invokevirtual 191, 3) := by decide +kernel
theorem dX9_pull_30 : decode cX9_pull 30 = .ok (.goto 5, 3) := by decide +kernel
theorem dX9_pull_33 : decode cX9_pull 33 = .ok (.ldc 171, 2) := by decide +kernel
theorem dX9_pull_35 : decode cX9_pull 35 = .ok (.ireturn, 1) := by decide +kernel
theorem dX9_doing_0 : decode cX9_doing 0 = .ok (.aload_n 0, 1) := by decide +kernel
theorem dX9_doing_1 : decode cX9_doing 1 = .ok (.iload_n 1, 1) := by decide +kernel
theorem dX9_doing_2 : decode cX9_doing 2 = .ok (.iload_n 2, 1) := by decide +kernel
theorem dX9_doing_3 : decode cX9_doing 3 = .ok (.invokevirtual 155, 3) := by decide +kernel
theorem dX9_doing_6 : decode cX9_doing 6 = .ok (.ifCond .eq 11, 3) := by decide +kernel
theorem dX9_doing_9 : decode cX9_doing 9 = .ok (.iload_n 3, 1) := by decide +kernel
theorem dX9_doing_10 : decode cX9_doing 10 = .ok (.iconst 3, 1) := by decide +kernel
theorem dX9_doing_11 : decode cX9_doing 11 = .ok (.invokestatic 79, 3) := by decide +kernel
theorem dX9_doing_14 : decode cX9_doing 14 = .ok (.ifCond .ne 6, 3) := by decide +kernel
theorem dX9_doing_17 : decode cX9_doing 17 = .ok (.ldc 83, 2) := by decide +kernel
theorem dX9_doing_19 : decode cX9_doing 19 = .ok (.ireturn, 1) := by decide +kernel
theorem dX9_doing_20 : decode cX9_doing 20 = .ok (.aload_n 0, 1) := by decide +kernel
theorem dX9_doing_21 : decode cX9_doing 21 = .ok (.getfield 35, 3) := by decide +kernel
theorem dX9_doing_24 : decode cX9_doing 24 = .ok (.getfield 176, 3) := by decide +kernel
theorem dX9_doing_27 : decode cX9_doing 27 = .ok (.ifCond .ne 6, 3) := by decide +kernel
theorem dX9_doing_30 : decode cX9_doing 30 = .ok (.ldc 171, 2) := by decide +kernel
theorem dX9_doing_32 : decode cX9_doing 32 = .ok (.ireturn, 1) := by decide +kernel
theorem dX9_doing_33 : decode cX9_doing 33 = .ok (.iload_n 3, 1) := by decide +kernel
theorem dX9_doing_34 : decode cX9_doing 34 = .ok (.ifCond .ne 15, 3) := by decide +kernel
theorem dX9_doing_37 : decode cX9_doing 37 = .ok (.aload_n 0, 1) := by decide +kernel
theorem dX9_doing_38 : decode cX9_doing 38 = .ok (.getfield 35, 3) := by decide +kernel
theorem dX9_doing_41 : decode cX9_doing 41 = .ok (.getfield 194, 3) := by decide +kernel
theorem dX9_doing_44 : decode cX9_doing 44 = .ok (.iload_n 1, 1) := by decide +kernel
theorem dX9_doing_45 : decode cX9_doing 45 = .ok (.aaload, 1) := by decide +kernel
theorem dX9_doing_46 : decode cX9_doing 46 = .ok (.iload_n 2, 1) := by decide +kernel
theorem dX9_doing_47 : decode cX9_doing 47 = .ok (.iaload, 1) := by decide +kernel
theorem dX9_doing_48 : decode cX9_doing 48 = .ok (.ireturn, 1) := by decide +kernel
theorem dX9_doing_49 : decode cX9_doing 49 = .ok (.aload_n 0, 1) := by decide +kernel
theorem dX9_doing_50 : decode cX9_doing 50 = .ok (.getfield 35, 3) := by decide +kernel
theorem dX9_doing_53 : decode cX9_doing 53 = .ok (.getfield 197, 3) := by decide +kernel
theorem dX9_doing_56 : decode cX9_doing 56 = .ok (.ifCond .ne 6, 3) := by decide +kernel
theorem dX9_doing_59 : decode cX9_doing 59 = .ok (.ldc 200, 2) := by decide +kernel
theorem dX9_doing_61 : decode cX9_doing 61 = .ok (.ireturn, 1) := by decide +kernel
theorem dX9_doing_62 : decode cX9_doing 62 = .ok (.iload_n 3, 1) := by decide +kernel
theorem dX9_doing_63 : decode cX9_doing 63 = .ok (.iconst 1, 1) := by decide +kernel
theorem dX9_doing_64 : decode cX9_doing 64 = .ok (.if_icmp .ne 17, 3) := by decide +kernel
theorem dX9_doing_67 : decode cX9_doing 67 = .ok (.aload_n 0, 1) := by decide +kernel
theorem dX9_doing_68 : decode cX9_doing 68 = .ok (.getfield 35, 3) := by decide +kernel
theorem dX9_doing_71 : decode cX9_doing 71 = .ok (.getfield 201, 3) := by decide +kernel
theorem dX9_doing_74 : decode cX9_doing 74 = .ok (.iload_n 1, 1) := by decide +kernel
theorem dX9_doing_75 : decode cX9_doing 75 = .ok (.aaload, 1) := by decide +kernel
theorem dX9_doing_76 : decode cX9_doing 76 = .ok (.iload_n 2, 1) := by decide +kernel
theorem dX9_doing_77 : decode cX9_doing 77 = .ok (.iaload, 1) := by decide +kernel
theorem dX9_doing_78 : decode cX9_doing 78 = .ok (.goto 14, 3) := by decide +kernel
theorem dX9_doing_81 : decode cX9_doing 81 = .ok (.aload_n 0, 1) := by decide +kernel
theorem dX9_doing_82 : decode cX9_doing 82 = .ok (.getfield 35, 3) := by decide +kernel
theorem dX9_doing_85 : decode cX9_doing 85 = .ok (.getfield 204, 3) := by decide +kernel
theorem dX9_doing_88 : decode cX9_doing 88 = .ok (.iload_n 1, 1) := by decide +kernel
theorem dX9_doing_89 : decode cX9_doing 89 = .ok (.aaload, 1) := by decide +kernel
theorem dX9_doing_90 : decode cX9_doing 90 = .ok (.iload_n 2, 1) := by decide +kernel
theorem dX9_doing_91 : decode cX9_doing 91 = .ok (.iaload, 1) := by decide +kernel
theorem dX9_doing_92 : decode cX9_doing 92 = .ok (.ireturn, 1) := by decide +kernel
theorem dX9_later_0 : decode cX9_later 0 = .ok (.iload_n 1, 1) := by decide +kernel
theorem dX9_later_1 : decode cX9_later 1 = .ok (.ifCond .lt 11, 3) := by decide +kernel
theorem dX9_later_4 : decode cX9_later 4 = .ok (.iload_n 2, 1) := by decide +kernel
theorem dX9_later_5 : decode cX9_later 5 = .ok (.iconst 5, 1) := by decide +kernel
theorem dX9_later_6 : decode cX9_later 6 = .ok (.invokestatic 79, 3) := by decide +kernel
theorem dX9_later_9 : decode cX9_later 9 = .ok (.ifCond .ne 6, 3) := by decide +kernel
theorem dX9_later_12 : decode cX9_later 12 = .ok (.ldc 83, 2) := by decide +kernel
theorem dX9_later_14 : decode cX9_later 14 = .ok (.ireturn, 1) := by decide +kernel
theorem dX9_later_15 : decode cX9_later 15 = .ok (.aload_n 0, 1) := by decide +kernel
theorem dX9_later_16 : decode cX9_later 16 = .ok (.getfield 35, 3) := by decide +kernel
theorem dX9_later_19 : decode cX9_later 19 = .ok (.getfield 176, 3) := by decide +kernel
theorem dX9_later_22 : decode cX9_later 22 = .ok (.ifCond .ne 6, 3) := by decide +kernel
theorem dX9_later_25 : decode cX9_later 25 = .ok (.ldc 171, 2) := by decide +kernel
theorem dX9_later_27 : decode cX9_later 27 = .ok (.ireturn, 1) := by decide +kernel
theorem dX9_later_28 : decode cX9_later 28 = .ok (.iload_n 1, 1) := by decide +kernel
theorem dX9_later_29 : decode cX9_later 29 = .ok (.aload_n 0, 1) := by decide +kernel
theorem dX9_later_30 : decode cX9_later 30 = .ok (.getfield 35, 3) := by decide +kernel
theorem dX9_later_33 : decode cX9_later 33 = .ok (.invokevirtual 207, 3) := by decide +kernel
theorem dX9_later_36 : decode cX9_later 36 = .ok (.if_icmp .ge 15, 3) := by decide +kernel
theorem dX9_later_39 : decode cX9_later 39 = .ok (.aload_n 0, 1) := by decide +kernel
theorem dX9_later_40 : decode cX9_later 40 = .ok (.getfield 35, 3) := by decide +kernel
theorem dX9_later_43 : decode cX9_later 43 = .ok (.iload_n 2, 1) := by decide +kernel
theorem dX9_later_44 : decode cX9_later 44 = .ok (.iload_n 1, 1) := by decide +kernel
theorem dX9_later_45 : decode cX9_later 45 = .ok (.invokevirtual 210, 3) := by decide +kernel
theorem dX9_later_48 : decode cX9_later 48 = .ok (.goto 5, 3) := by decide +kernel
theorem dX9_later_51 : decode cX9_later 51 = .ok (.ldc 200, 2) := by decide +kernel
theorem dX9_later_53 : decode cX9_later 53 = .ok (.ireturn, 1) := by decide +kernel
theorem dX9_three_0 : decode cX9_three 0 = .ok (.iload_n 1, 1) := by decide +kernel
theorem dX9_three_1 : decode cX9_three 1 = .ok (.iconst 1, 1) := by decide +kernel
theorem dX9_three_2 : decode cX9_three 2 = .ok (.if_icmp .lt 18, 3) := by decide +kernel
theorem dX9_three_5 : decode cX9_three 5 = .ok (.iload_n 1, 1) := by decide +kernel
theorem dX9_three_6 : decode cX9_three 6 = .ok (.sipush 200, 3) := by decide +kernel
theorem dX9_three_9 : decode cX9_three 9 = .ok (.if_icmp .gt 11, 3) := by decide +kernel
theorem dX9_three_12 : decode cX9_three 12 = .ok (.iload_n 2, 1) := by decide +kernel
theorem dX9_three_13 : decode cX9_three 13 = .ok (.iconst 4, 1) := by decide +kernel
theorem dX9_three_14 : decode cX9_three 14 = .ok (.invokestatic 79, 3) := by decide +kernel
theorem dX9_three_17 : decode cX9_three 17 = .ok (.ifCond .ne 6, 3) := by decide +kernel
theorem dX9_three_20 : decode cX9_three 20 = .ok (.ldc 83, 2) := by decide +kernel
theorem dX9_three_22 : decode cX9_three 22 = .ok (.ireturn, 1) := by decide +kernel
theorem dX9_three_23 : decode cX9_three 23 = .ok (.aload_n 0, 1) := by decide +kernel
theorem dX9_three_24 : decode cX9_three 24 = .ok (.getfield 25, 3) := by decide +kernel
theorem dX9_three_27 : decode cX9_three 27 = .ok (.getfield 168, 3) := by decide +kernel
theorem dX9_three_30 : decode cX9_three 30 = .ok (.ifCond .eq 19, 3) := by decide +kernel
theorem dX9_three_33 : decode cX9_three 33 = .ok (.aload_n 0, 1) := by decide +kernel
theorem dX9_three_34 : decode cX9_three 34 = .ok (.getfield 39, 3) := by decide +kernel
theorem dX9_three_37 : decode cX9_three 37 = .ok (.aload_n 0, 1) := by decide +kernel
theorem dX9_three_38 : decode cX9_three 38 = .ok (.getfield 25, 3) := by decide +kernel
theorem dX9_three_41 : decode cX9_three 41 = .ok (.iload_n 1, 1) := by decide +kernel
theorem dX9_three_42 : decode cX9_three 42 = .ok (.iload_n 2, 1) := by decide +kernel
theorem dX9_three_43 : decode cX9_three 43 = .ok (.invokevirtual 214, 3) := by decide +kernel
theorem dX9_three_46 : decode cX9_three 46 = .ok (.goto 5, 3) := by decide +kernel
theorem dX9_three_49 : decode cX9_three 49 = .ok (.ldc 171, 2) := by decide +kernel
theorem dX9_three_51 : decode cX9_three 51 = .ok (.ireturn, 1) := by decide +kernel
theorem dX9_together_0 : decode cX9_together 0 = .ok (.iload_n 1, 1) := by decide +kernel
theorem dX9_together_1 : decode cX9_together 1 = .ok (.iconst 2, 1) := by decide +kernel
theorem dX9_together_2 : decode cX9_together 2 = .ok (.invokestatic 79, 3) := by decide +kernel
theorem dX9_together_5 : decode cX9_together 5 = .ok (.ifCond .eq 30, 3) := by decide +kernel
theorem dX9_together_8 : decode cX9_together 8 = .ok (.iload_n 2, 1) := by decide +kernel
theorem dX9_together_9 : decode cX9_together 9 = .ok (.bipush 51, 2) := by decide +kernel
theorem dX9_together_11 : decode cX9_together 11 = .ok (.invokestatic 79, 3) := by decide +kernel
theorem dX9_together_14 : decode cX9_together 14 = .ok (.ifCond .eq 21, 3) := by decide +kernel
theorem dX9_together_17 : decode cX9_together 17 = .ok (.iload_n 3, 1) := by decide +kernel
theorem dX9_together_18 : decode cX9_together 18 = .ok (.iconst 2, 1) := by decide +kernel
theorem dX9_together_19 : decode cX9_together 19 = .ok (.invokestatic 79, 3) := by decide +kernel
theorem dX9_together_22 : decode cX9_together 22 = .ok (.ifCond .eq 13, 3) := by decide +kernel
theorem dX9_together_25 : decode cX9_together 25 = .ok (.aload_n 0, 1) := by decide +kernel
theorem dX9_together_26 : decode cX9_together 26 = .ok (.getfield 25, 3) := by decide +kernel
theorem dX9_together_29 : decode cX9_together 29 = .ok (.getfield 168, 3) := by decide +kernel
theorem dX9_together_32 : decode cX9_together 32 = .ok (.ifCond .ne 6, 3) := by decide +kernel
theorem dX9_together_35 : decode cX9_together 35 = .ok (.ldc 83, 2) := by decide +kernel
theorem dX9_together_37 : decode cX9_together 37 = .ok (.ireturn, 1) := by decide +kernel
theorem dX9_together_38 : decode cX9_together 38 = .ok (.aload_n 0, 1) := by decide +kernel
theorem dX9_together_39 : decode cX9_together 39 = .ok (.getfield 25, 3) := by decide +kernel
theorem dX9_together_42 : decode cX9_together 42 = .ok (.getfield 158, 3) := by decide +kernel
theorem dX9_together_45 : decode cX9_together 45 = .ok (.iload_n 1, 1) := by decide +kernel
theorem dX9_together_46 : decode cX9_together 46 = .ok (.aaload, 1) := by decide +kernel
theorem dX9_together_47 : decode cX9_together 47 = .ok (.astore 4, 2) := by decide +kernel
theorem dX9_together_49 : decode cX9_together 49 = .ok (.aload 4, 2) := by decide +kernel
theorem dX9_together_51 : decode cX9_together 51 = .ok (.iload_n 2, 1) := by decide +kernel
theorem dX9_together_52 : decode cX9_together 52 = .ok (.invokevirtual 218, 3) := by decide +kernel
theorem dX9_together_55 : decode cX9_together 55 = .ok (.istore 5, 2) := by decide +kernel
theorem dX9_together_57 : decode cX9_together 57 = .ok (.iload_n 3, 1) := by decide +kernel
theorem dX9_together_58 : decode cX9_together 58 = .ok (.ifCond .ne 14, 3) := by decide +kernel
theorem dX9_together_61 : decode cX9_together 61 = .ok (.aload 4, 2) := by decide +kernel
theorem dX9_together_63 : decode cX9_together 63 = .ok (.iload 5, 2) := by decide +kernel
theorem dX9_together_65 : decode cX9_together 65 = .ok (.iload_n 2, 1) := by decide +kernel
theorem dX9_together_66 : decode cX9_together 66 = .ok (.invokevirtual 221, 3) := by decide +kernel
theorem dX9_together_69 : decode cX9_together 69 = .ok (.goto 5, 3) := by decide +kernel
theorem dX9_together_72 : decode cX9_together 72 = .ok (.iload 5, 2) := by decide +kernel
theorem dX9_together_74 : decode cX9_together 74 = .ok (.ireturn, 1) := by decide +kernel
theorem dX9_stands_0 : decode cX9_stands 0 = .ok (.iload_n 1, 1) := by decide +kernel
theorem dX9_stands_1 : decode cX9_stands 1 = .ok (.iconst 2, 1) := by decide +kernel
theorem dX9_stands_2 : decode cX9_stands 2 = .ok (.invokestatic 79, 3) := by decide +kernel
theorem dX9_stands_5 : decode cX9_stands 5 = .ok (.ifCond .eq 18, 3) := by decide +kernel
theorem dX9_stands_8 : decode cX9_stands 8 = .ok (.iload_n 2, 1) := by decide +kernel
theorem dX9_stands_9 : decode cX9_stands 9 = .ok (.iconst (-1), 1) := by decide +kernel
theorem dX9_stands_10 : decode cX9_stands 10 = .ok (.if_icmp .lt 13, 3) := by decide +kernel
theorem dX9_stands_13 : decode cX9_stands 13 = .ok (.aload_n 0, 1) := by decide +kernel
theorem dX9_stands_14 : decode cX9_stands 14 = .ok (.getfield 25, 3) := by decide +kernel
theorem dX9_stands_17 : decode cX9_stands 17 = .ok (.getfield 168, 3) := by decide +kernel
theorem dX9_stands_20 : decode cX9_stands 20 = .ok (.ifCond .ne 6, 3) := by decide +kernel
theorem dX9_stands_23 : decode cX9_stands 23 = .ok (.ldc 83, 2) := by decide +kernel
theorem dX9_stands_25 : decode cX9_stands 25 = .ok (.ireturn, 1) := by decide +kernel
theorem dX9_stands_26 : decode cX9_stands 26 = .ok (.aload_n 0, 1) := by decide +kernel
theorem dX9_stands_27 : decode cX9_stands 27 = .ok (.getfield 25, 3) := by decide +kernel
theorem dX9_stands_30 : decode cX9_stands 30 = .ok (.getfield 158, 3) := by decide +kernel
theorem dX9_stands_33 : decode cX9_stands 33 = .ok (.iload_n 1, 1) := by decide +kernel
theorem dX9_stands_34 : decode cX9_stands 34 = .ok (.aaload, 1) := by decide +kernel
theorem dX9_stands_35 : decode cX9_stands 35 = .ok (.astore_n 3, 1) := by decide +kernel
theorem dX9_stands_36 : decode cX9_stands 36 = .ok (.iload_n 2, 1) := by decide +kernel
theorem dX9_stands_37 : decode cX9_stands 37 = .ok (.aload_n 3, 1) := by decide +kernel
theorem dX9_stands_38 : decode cX9_stands 38 = .ok (.getfield 224, 3) := by decide +kernel
theorem dX9_stands_41 : decode cX9_stands 41 = .ok (.if_icmp .lt 6, 3) := by decide +kernel
theorem dX9_stands_44 : decode cX9_stands 44 = .ok (.ldc 200, 2) := by decide +kernel
theorem dX9_stands_46 : decode cX9_stands 46 = .ok (.ireturn, 1) := by decide +kernel
theorem dX9_stands_47 : decode cX9_stands 47 = .ok (.aload_n 0, 1) := by decide +kernel
theorem dX9_stands_48 : decode cX9_stands 48 = .ok (.getfield 53, 3) := by decide +kernel
theorem dX9_stands_51 : decode cX9_stands 51 = .ok (.aload_n 3, 1) := by decide +kernel
theorem dX9_stands_52 : decode cX9_stands 52 = .ok (.invokevirtual 227, 3) := by decide +kernel
theorem dX9_stands_55 : decode cX9_stands 55 = .ok (.iload_n 2, 1) := by decide +kernel
theorem dX9_stands_56 : decode cX9_stands 56 = .ok (.ifCond .ge 15, 3) := by decide +kernel
theorem dX9_stands_59 : decode cX9_stands 59 = .ok (.aload_n 0, 1) := by decide +kernel
theorem dX9_stands_60 : decode cX9_stands 60 = .ok (.getfield 53, 3) := by decide +kernel
theorem dX9_stands_63 : decode cX9_stands 63 = .ok (.getfield 231, 3) := by decide +kernel
theorem dX9_stands_66 : decode cX9_stands 66 = .ok (.iconst 0, 1) := by decide +kernel
theorem dX9_stands_67 : decode cX9_stands 67 = .ok (.iaload, 1) := by decide +kernel
theorem dX9_stands_68 : decode cX9_stands 68 = .ok (.goto 12, 3) := by decide +kernel
theorem dX9_stands_71 : decode cX9_stands 71 = .ok (.aload_n 0, 1) := by decide +kernel
theorem dX9_stands_72 : decode cX9_stands 72 = .ok (.getfield 53, 3) := by decide +kernel
theorem dX9_stands_75 : decode cX9_stands 75 = .ok (.aload_n 3, 1) := by decide +kernel
theorem dX9_stands_76 : decode cX9_stands 76 = .ok (.iload_n 2, 1) := by decide +kernel
theorem dX9_stands_77 : decode cX9_stands 77 = .ok (.invokevirtual 234, 3) := by decide +kernel
theorem dX9_stands_80 : decode cX9_stands 80 = .ok (.ireturn, 1) := by decide +kernel
theorem dX9_chosen_0 : decode cX9_chosen 0 = .ok (.iload_n 1, 1) := by decide +kernel
theorem dX9_chosen_1 : decode cX9_chosen 1 = .ok (.sipush 2001, 3) := by decide +kernel
theorem dX9_chosen_4 : decode cX9_chosen 4 = .ok (.invokestatic 79, 3) := by decide +kernel
theorem dX9_chosen_7 : decode cX9_chosen 7 = .ok (.ifCond .eq 22, 3) := by decide +kernel
theorem dX9_chosen_10 : decode cX9_chosen 10 = .ok (.iload_n 2, 1) := by decide +kernel
theorem dX9_chosen_11 : decode cX9_chosen 11 = .ok (.iconst 1, 1) := by decide +kernel
theorem dX9_chosen_12 : decode cX9_chosen 12 = .ok (.if_icmp .lt 17, 3) := by decide +kernel
theorem dX9_chosen_15 : decode cX9_chosen 15 = .ok (.iload_n 2, 1) := by decide +kernel
theorem dX9_chosen_16 : decode cX9_chosen 16 = .ok (.bipush 16, 2) := by decide +kernel
theorem dX9_chosen_18 : decode cX9_chosen 18 = .ok (.if_icmp .gt 11, 3) := by decide +kernel
theorem dX9_chosen_21 : decode cX9_chosen 21 = .ok (.iload_n 3, 1) := by decide +kernel
theorem dX9_chosen_22 : decode cX9_chosen 22 = .ok (.iconst 2, 1) := by decide +kernel
theorem dX9_chosen_23 : decode cX9_chosen 23 = .ok (.invokestatic 79, 3) := by decide +kernel
theorem dX9_chosen_26 : decode cX9_chosen 26 = .ok (.ifCond .ne 6, 3) := by decide +kernel
theorem dX9_chosen_29 : decode cX9_chosen 29 = .ok (.ldc 83, 2) := by decide +kernel
theorem dX9_chosen_31 : decode cX9_chosen 31 = .ok (.ireturn, 1) := by decide +kernel
theorem dX9_chosen_32 : decode cX9_chosen 32 = .ok (.aload_n 0, 1) := by decide +kernel
theorem dX9_chosen_33 : decode cX9_chosen 33 = .ok (.getfield 25, 3) := by decide +kernel
theorem dX9_chosen_36 : decode cX9_chosen 36 = .ok (.getfield 168, 3) := by decide +kernel
theorem dX9_chosen_39 : decode cX9_chosen 39 = .ok (.ifCond .ne 6, 3) := by decide +kernel
theorem dX9_chosen_42 : decode cX9_chosen 42 = .ok (.ldc 171, 2) := by decide +kernel
theorem dX9_chosen_44 : decode cX9_chosen 44 = .ok (.ireturn, 1) := by decide +kernel
theorem dX9_chosen_45 : decode cX9_chosen 45 = .ok (.aload_n 0, 1) := by decide +kernel
theorem dX9_chosen_46 : decode cX9_chosen 46 = .ok (.getfield 60, 3) := by decide +kernel
theorem dX9_chosen_49 : decode cX9_chosen 49 = .ok (.aload_n 0, 1) := by decide +kernel
theorem dX9_chosen_50 : decode cX9_chosen 50 = .ok (.getfield 25, 3) := by decide +kernel
theorem dX9_chosen_53 : decode cX9_chosen 53 = .ok (.iload_n 1, 1) := by decide +kernel
theorem dX9_chosen_54 : decode cX9_chosen 54 = .ok (.iload_n 2, 1) := by decide +kernel
theorem dX9_chosen_55 : decode cX9_chosen 55 = .ok (.invokevirtual 238, 3) := by decide +kernel
theorem dX9_chosen_58 : decode cX9_chosen 58 = .ok (.iload_n 3, 1) := by decide +kernel
theorem dX9_chosen_59 : decode cX9_chosen 59 = .ok (.ifCond .ne 13, 3) := by decide +kernel
theorem dX9_chosen_62 : decode cX9_chosen 62 = .ok (.aload_n 0, 1) := by decide +kernel
theorem dX9_chosen_63 : decode cX9_chosen 63 = .ok (.getfield 60, 3) := by decide +kernel
theorem dX9_chosen_66 : decode cX9_chosen 66 = .ok (.getfield 242, 3) := by decide +kernel
theorem dX9_chosen_69 : decode cX9_chosen 69 = .ok (.goto 10, 3) := by decide +kernel
theorem dX9_chosen_72 : decode cX9_chosen 72 = .ok (.aload_n 0, 1) := by decide +kernel
theorem dX9_chosen_73 : decode cX9_chosen 73 = .ok (.getfield 60, 3) := by decide +kernel
theorem dX9_chosen_76 : decode cX9_chosen 76 = .ok (.getfield 245, 3) := by decide +kernel
theorem dX9_chosen_79 : decode cX9_chosen 79 = .ok (.ireturn, 1) := by decide +kernel
theorem dX9_game_0 : decode cX9_game 0 = .ok (.iload_n 1, 1) := by decide +kernel
theorem dX9_game_1 : decode cX9_game 1 = .ok (.bipush 10, 2) := by decide +kernel
theorem dX9_game_3 : decode cX9_game 3 = .ok (.invokestatic 79, 3) := by decide +kernel
theorem dX9_game_6 : decode cX9_game 6 = .ok (.ifCond .eq 30, 3) := by decide +kernel
theorem dX9_game_9 : decode cX9_game 9 = .ok (.iload_n 2, 1) := by decide +kernel
theorem dX9_game_10 : decode cX9_game 10 = .ok (.bipush 10, 2) := by decide +kernel
theorem dX9_game_12 : decode cX9_game 12 = .ok (.invokestatic 79, 3) := by decide +kernel
theorem dX9_game_15 : decode cX9_game 15 = .ok (.ifCond .eq 21, 3) := by decide +kernel
theorem dX9_game_18 : decode cX9_game 18 = .ok (.iload_n 3, 1) := by decide +kernel
theorem dX9_game_19 : decode cX9_game 19 = .ok (.bipush 21, 2) := by decide +kernel
theorem dX9_game_21 : decode cX9_game 21 = .ok (.invokestatic 79, 3) := by decide +kernel
theorem dX9_game_24 : decode cX9_game 24 = .ok (.ifCond .eq 12, 3) := by decide +kernel
theorem dX9_game_27 : decode cX9_game 27 = .ok (.iload 4, 2) := by decide +kernel
theorem dX9_game_29 : decode cX9_game 29 = .ok (.iconst 2, 1) := by decide +kernel
theorem dX9_game_30 : decode cX9_game 30 = .ok (.invokestatic 79, 3) := by decide +kernel
theorem dX9_game_33 : decode cX9_game 33 = .ok (.ifCond .ne 6, 3) := by decide +kernel
theorem dX9_game_36 : decode cX9_game 36 = .ok (.ldc 83, 2) := by decide +kernel
theorem dX9_game_38 : decode cX9_game 38 = .ok (.ireturn, 1) := by decide +kernel
theorem dX9_game_39 : decode cX9_game 39 = .ok (.aload_n 0, 1) := by decide +kernel
theorem dX9_game_40 : decode cX9_game 40 = .ok (.getfield 67, 3) := by decide +kernel
theorem dX9_game_43 : decode cX9_game 43 = .ok (.iload_n 3, 1) := by decide +kernel
theorem dX9_game_44 : decode cX9_game 44 = .ok (.invokevirtual 248, 3) := by decide +kernel
theorem dX9_game_47 : decode cX9_game 47 = .ok (.iload 4, 2) := by decide +kernel
theorem dX9_game_49 : decode cX9_game 49 = .ok (.ifCond .ne 16, 3) := by decide +kernel
theorem dX9_game_52 : decode cX9_game 52 = .ok (.aload_n 0, 1) := by decide +kernel
theorem dX9_game_53 : decode cX9_game 53 = .ok (.getfield 67, 3) := by decide +kernel
theorem dX9_game_56 : decode cX9_game 56 = .ok (.iload_n 1, 1) := by decide +kernel
theorem dX9_game_57 : decode cX9_game 57 = .ok (.iload_n 2, 1) := by decide +kernel
theorem dX9_game_58 : decode cX9_game 58 = .ok (.iload_n 3, 1) := by decide +kernel
theorem dX9_game_59 : decode cX9_game 59 = .ok (.invokevirtual 252, 3) := by decide +kernel
theorem dX9_game_62 : decode cX9_game 62 = .ok (.goto 13, 3) := by decide +kernel
theorem dX9_game_65 : decode cX9_game 65 = .ok (.aload_n 0, 1) := by decide +kernel
theorem dX9_game_66 : decode cX9_game 66 = .ok (.getfield 67, 3) := by decide +kernel
theorem dX9_game_69 : decode cX9_game 69 = .ok (.iload_n 1, 1) := by decide +kernel
theorem dX9_game_70 : decode cX9_game 70 = .ok (.iload_n 2, 1) := by decide +kernel
theorem dX9_game_71 : decode cX9_game 71 = .ok (.iload_n 3, 1) := by decide +kernel
theorem dX9_game_72 : decode cX9_game 72 = .ok (.invokevirtual 256, 3) := by decide +kernel
theorem dX9_game_75 : decode cX9_game 75 = .ok (.ireturn, 1) := by decide +kernel
theorem dX9_left_0 : decode cX9_left 0 = .ok (.iload_n 1, 1) := by decide +kernel
theorem dX9_left_1 : decode cX9_left 1 = .ok (.bipush 8, 2) := by decide +kernel
theorem dX9_left_3 : decode cX9_left 3 = .ok (.invokestatic 79, 3) := by decide +kernel
theorem dX9_left_6 : decode cX9_left 6 = .ok (.ifCond .eq 18, 3) := by decide +kernel
theorem dX9_left_9 : decode cX9_left 9 = .ok (.iload_n 3, 1) := by decide +kernel
theorem dX9_left_10 : decode cX9_left 10 = .ok (.iconst 1, 1) := by decide +kernel
theorem dX9_left_11 : decode cX9_left 11 = .ok (.if_icmp .lt 13, 3) := by decide +kernel
theorem dX9_left_14 : decode cX9_left 14 = .ok (.iload_n 3, 1) := by decide +kernel
theorem dX9_left_15 : decode cX9_left 15 = .ok (.bipush 20, 2) := by decide +kernel
theorem dX9_left_17 : decode cX9_left 17 = .ok (.if_icmp .gt 7, 3) := by decide +kernel
theorem dX9_left_20 : decode cX9_left 20 = .ok (.iconst 1, 1) := by decide +kernel
theorem dX9_left_21 : decode cX9_left 21 = .ok (.goto 4, 3) := by decide +kernel
theorem dX9_left_24 : decode cX9_left 24 = .ok (.iconst 0, 1) := by decide +kernel
theorem dX9_left_25 : decode cX9_left 25 = .ok (.istore 7, 2) := by decide +kernel
theorem dX9_left_27 : decode cX9_left 27 = .ok (.iload 4, 2) := by decide +kernel
theorem dX9_left_29 : decode cX9_left 29 = .ok (.iconst 1, 1) := by decide +kernel
theorem dX9_left_30 : decode cX9_left 30 = .ok (.if_icmp .lt 30, 3) := by decide +kernel
theorem dX9_left_33 : decode cX9_left 33 = .ok (.iload 4, 2) := by decide +kernel
theorem dX9_left_35 : decode cX9_left 35 = .ok (.sipush 999, 3) := by decide +kernel
theorem dX9_left_38 : decode cX9_left 38 = .ok (.if_icmp .gt 22, 3) := by decide +kernel
theorem dX9_left_41 : decode cX9_left 41 = .ok (.iload 5, 2) := by decide +kernel
theorem dX9_left_43 : decode cX9_left 43 = .ok (.iload 4, 2) := by decide +kernel
theorem dX9_left_45 : decode cX9_left 45 = .ok (.if_icmp .le 15, 3) := by decide +kernel
theorem dX9_left_48 : decode cX9_left 48 = .ok (.iload 5, 2) := by decide +kernel
theorem dX9_left_50 : decode cX9_left 50 = .ok (.sipush 1999, 3) := by decide +kernel
theorem dX9_left_53 : decode cX9_left 53 = .ok (.if_icmp .gt 7, 3) := by decide +kernel
theorem dX9_left_56 : decode cX9_left 56 = .ok (.iconst 1, 1) := by decide +kernel
theorem dX9_left_57 : decode cX9_left 57 = .ok (.goto 4, 3) := by decide +kernel
theorem dX9_left_60 : decode cX9_left 60 = .ok (.iconst 0, 1) := by decide +kernel
theorem dX9_left_61 : decode cX9_left 61 = .ok (.istore 8, 2) := by decide +kernel
theorem dX9_left_63 : decode cX9_left 63 = .ok (.iload 7, 2) := by decide +kernel
theorem dX9_left_65 : decode cX9_left 65 = .ok (.ifCond .eq 17, 3) := by decide +kernel
theorem dX9_left_68 : decode cX9_left 68 = .ok (.iload 8, 2) := by decide +kernel
theorem dX9_left_70 : decode cX9_left 70 = .ok (.ifCond .eq 12, 3) := by decide +kernel
theorem dX9_left_73 : decode cX9_left 73 = .ok (.iload 6, 2) := by decide +kernel
theorem dX9_left_75 : decode cX9_left 75 = .ok (.iconst 3, 1) := by decide +kernel
theorem dX9_left_76 : decode cX9_left 76 = .ok (.invokestatic 79, 3) := by decide +kernel
theorem dX9_left_79 : decode cX9_left 79 = .ok (.ifCond .ne 6, 3) := by decide +kernel
theorem dX9_left_82 : decode cX9_left 82 = .ok (.ldc 83, 2) := by decide +kernel
theorem dX9_left_84 : decode cX9_left 84 = .ok (.ireturn, 1) := by decide +kernel
theorem dX9_left_85 : decode cX9_left 85 = .ok (.aload_n 0, 1) := by decide +kernel
theorem dX9_left_86 : decode cX9_left 86 = .ok (.getfield 11, 3) := by decide +kernel
theorem dX9_left_89 : decode cX9_left 89 = .ok (.iload_n 1, 1) := by decide +kernel
theorem dX9_left_90 : decode cX9_left 90 = .ok (.aaload, 1) := by decide +kernel
theorem dX9_left_91 : decode cX9_left 91 = .ok (.astore 9, 2) := by decide +kernel
theorem dX9_left_93 : decode cX9_left 93 = .ok (.aload 9, 2) := by decide +kernel
theorem dX9_left_95 : decode cX9_left 95 = .ok (.getfield 95, 3) := by decide +kernel
theorem dX9_left_98 : decode cX9_left 98 = .ok (.ifCond .eq 9, 3) := by decide +kernel
theorem dX9_left_101 : decode cX9_left 101 = .ok (.aload_n 0, 1) := by decide +kernel
theorem dX9_left_102 : decode cX9_left 102 = .ok (.iconst 1, 1) := by decide +kernel
theorem dX9_left_103 : decode cX9_left 103 = .ok (.invokevirtual 84, 3) := by decide +kernel
theorem dX9_left_106 : decode cX9_left 106 = .ok (.ireturn, 1) := by decide +kernel
theorem dX9_left_107 : decode cX9_left 107 = .ok (.aload 9, 2) := by decide +kernel
theorem dX9_left_109 : decode cX9_left 109 = .ok (.iload_n 2, 1) := by decide +kernel
theorem dX9_left_110 : decode cX9_left 110 = .ok (.iload_n 3, 1) := by decide +kernel
theorem dX9_left_111 : decode cX9_left 111 = .ok (.invokevirtual 99, 3) := by decide +kernel
theorem dX9_left_114 : decode cX9_left 114 = .ok (.ifCond .ne 9, 3) := by decide +kernel
theorem dX9_left_117 : decode cX9_left 117 = .ok (.aload_n 0, 1) := by decide +kernel
theorem dX9_left_118 : decode cX9_left 118 = .ok (.iconst 2, 1) := by decide +kernel
theorem dX9_left_119 : decode cX9_left 119 = .ok (.invokevirtual 84, 3) := by decide +kernel
theorem dX9_left_122 : decode cX9_left 122 = .ok (.ireturn, 1) := by decide +kernel
theorem dX9_left_123 : decode cX9_left 123 = .ok (.aload_n 0, 1) := by decide +kernel
theorem dX9_left_124 : decode cX9_left 124 = .ok (.aload 9, 2) := by decide +kernel
theorem dX9_left_126 : decode cX9_left 126 = .ok (.iload_n 2, 1) := by decide +kernel
theorem dX9_left_127 : decode cX9_left 127 = .ok (.iload_n 3, 1) := by decide +kernel
theorem dX9_left_128 : decode cX9_left 128 = .ok (.iload 4, 2) := by decide +kernel
theorem dX9_left_130 : decode cX9_left 130 = .ok (.iload 5, 2) := by decide +kernel
theorem dX9_left_132 : decode cX9_left 132 = .ok (.iadd, 1) := by decide +kernel
theorem dX9_left_133 : decode cX9_left 133 = .ok (.iconst 2, 1) := by decide +kernel
theorem dX9_left_134 : decode cX9_left 134 = .ok (.idiv, 1) := by decide +kernel
theorem dX9_left_135 : decode cX9_left 135 = .ok (.iload 6, 2) := by decide +kernel
theorem dX9_left_137 : decode cX9_left 137 = .ok (.invokestatic 259, 3) := by decide +kernel
theorem dX9_left_140 : decode cX9_left 140 = .ok (.invokevirtual 92, 3) := by decide +kernel
theorem dX9_left_143 : decode cX9_left 143 = .ok (.ireturn, 1) := by decide +kernel
theorem dX9_read_0 : decode cX9_read 0 = .ok (.iload_n 1, 1) := by decide +kernel
theorem dX9_read_1 : decode cX9_read 1 = .ok (.iconst 2, 1) := by decide +kernel
theorem dX9_read_2 : decode cX9_read 2 = .ok (.invokestatic 79, 3) := by decide +kernel
theorem dX9_read_5 : decode cX9_read 5 = .ok (.ifCond .ne 6, 3) := by decide +kernel
theorem dX9_read_8 : decode cX9_read 8 = .ok (.ldc 83, 2) := by decide +kernel
theorem dX9_read_10 : decode cX9_read 10 = .ok (.ireturn, 1) := by decide +kernel
theorem dX9_read_11 : decode cX9_read 11 = .ok (.aload_n 0, 1) := by decide +kernel
theorem dX9_read_12 : decode cX9_read 12 = .ok (.getfield 35, 3) := by decide +kernel
theorem dX9_read_15 : decode cX9_read 15 = .ok (.getfield 176, 3) := by decide +kernel
theorem dX9_read_18 : decode cX9_read 18 = .ok (.ifCond .eq 14, 3) := by decide +kernel
theorem dX9_read_21 : decode cX9_read 21 = .ok (.aload_n 0, 1) := by decide +kernel
theorem dX9_read_22 : decode cX9_read 22 = .ok (.getfield 35, 3) := by decide +kernel
theorem dX9_read_25 : decode cX9_read 25 = .ok (.iload_n 1, 1) := by decide +kernel
theorem dX9_read_26 : decode cX9_read 26 = .ok (.invokevirtual 263, 3) := by decide +kernel
theorem dX9_read_29 : decode cX9_read 29 = .ok (.goto 5, 3) := by decide +kernel
theorem dX9_read_32 : decode cX9_read 32 = .ok (.ldc 171, 2) := by decide +kernel
theorem dX9_read_34 : decode cX9_read 34 = .ok (.ireturn, 1) := by decide +kernel
theorem dX9_image_0 : decode cX9_image 0 = .ok (.iload_n 1, 1) := by decide +kernel
theorem dX9_image_1 : decode cX9_image 1 = .ok (.iconst 2, 1) := by decide +kernel
theorem dX9_image_2 : decode cX9_image 2 = .ok (.invokestatic 79, 3) := by decide +kernel
theorem dX9_image_5 : decode cX9_image 5 = .ok (.ifCond .ne 6, 3) := by decide +kernel
theorem dX9_image_8 : decode cX9_image 8 = .ok (.ldc 83, 2) := by decide +kernel
theorem dX9_image_10 : decode cX9_image 10 = .ok (.ireturn, 1) := by decide +kernel
theorem dX9_image_11 : decode cX9_image 11 = .ok (.aload_n 0, 1) := by decide +kernel
theorem dX9_image_12 : decode cX9_image 12 = .ok (.getfield 25, 3) := by decide +kernel
theorem dX9_image_15 : decode cX9_image 15 = .ok (.getfield 168, 3) := by decide +kernel
theorem dX9_image_18 : decode cX9_image 18 = .ok (.ifCond .ne 6, 3) := by decide +kernel
theorem dX9_image_21 : decode cX9_image 21 = .ok (.ldc 171, 2) := by decide +kernel
theorem dX9_image_23 : decode cX9_image 23 = .ok (.ireturn, 1) := by decide +kernel
theorem dX9_image_24 : decode cX9_image 24 = .ok (.aload_n 0, 1) := by decide +kernel
theorem dX9_image_25 : decode cX9_image 25 = .ok (.getfield 42, 3) := by decide +kernel
theorem dX9_image_28 : decode cX9_image 28 = .ok (.iload_n 1, 1) := by decide +kernel
theorem dX9_image_29 : decode cX9_image 29 = .ok (.aaload, 1) := by decide +kernel
theorem dX9_image_30 : decode cX9_image 30 = .ok (.aload_n 0, 1) := by decide +kernel
theorem dX9_image_31 : decode cX9_image 31 = .ok (.getfield 25, 3) := by decide +kernel
theorem dX9_image_34 : decode cX9_image 34 = .ok (.invokevirtual 144, 3) := by decide +kernel
theorem dX9_image_37 : decode cX9_image 37 = .ok (.aload_n 0, 1) := by decide +kernel
theorem dX9_image_38 : decode cX9_image 38 = .ok (.getfield 46, 3) := by decide +kernel
theorem dX9_image_41 : decode cX9_image 41 = .ok (.iload_n 1, 1) := by decide +kernel
theorem dX9_image_42 : decode cX9_image 42 = .ok (.aaload, 1) := by decide +kernel
theorem dX9_image_43 : decode cX9_image 43 = .ok (.aload_n 0, 1) := by decide +kernel
theorem dX9_image_44 : decode cX9_image 44 = .ok (.getfield 35, 3) := by decide +kernel
theorem dX9_image_47 : decode cX9_image 47 = .ok (.invokevirtual 266, 3) := by decide +kernel
theorem dX9_image_50 : decode cX9_image 50 = .ok (.iconst 1, 1) := by decide +kernel
theorem dX9_image_51 : decode cX9_image 51 = .ok (.ireturn, 1) := by decide +kernel
theorem dX9_restore_0 : decode cX9_restore 0 = .ok (.iload_n 1, 1) := by decide +kernel
theorem dX9_restore_1 : decode cX9_restore 1 = .ok (.iconst 2, 1) := by decide +kernel
theorem dX9_restore_2 : decode cX9_restore 2 = .ok (.invokestatic 79, 3) := by decide +kernel
theorem dX9_restore_5 : decode cX9_restore 5 = .ok (.ifCond .ne 6, 3) := by decide +kernel
theorem dX9_restore_8 : decode cX9_restore 8 = .ok (.ldc 83, 2) := by decide +kernel
theorem dX9_restore_10 : decode cX9_restore 10 = .ok (.ireturn, 1) := by decide +kernel
theorem dX9_restore_11 : decode cX9_restore 11 = .ok (.aload_n 0, 1) := by decide +kernel
theorem dX9_restore_12 : decode cX9_restore 12 = .ok (.getfield 42, 3) := by decide +kernel
theorem dX9_restore_15 : decode cX9_restore 15 = .ok (.iload_n 1, 1) := by decide +kernel
theorem dX9_restore_16 : decode cX9_restore 16 = .ok (.aaload, 1) := by decide +kernel
theorem dX9_restore_17 : decode cX9_restore 17 = .ok (.getfield 168, 3) := by decide +kernel
theorem dX9_restore_20 : decode cX9_restore 20 = .ok (.ifCond .ne 6, 3) := by decide +kernel
theorem dX9_restore_23 : decode cX9_restore 23 = .ok (.ldc 171, 2) := by decide +kernel
theorem dX9_restore_25 : decode cX9_restore 25 = .ok (.ireturn, 1) := by decide +kernel
theorem dX9_restore_26 : decode cX9_restore 26 = .ok (.aload_n 0, 1) := by decide +kernel
theorem dX9_restore_27 : decode cX9_restore 27 = .ok (.getfield 25, 3) := by decide +kernel
theorem dX9_restore_30 : decode cX9_restore 30 = .ok (.aload_n 0, 1) := by decide +kernel
theorem dX9_restore_31 : decode cX9_restore 31 = .ok (.getfield 42, 3) := by decide +kernel
theorem dX9_restore_34 : decode cX9_restore 34 = .ok (.iload_n 1, 1) := by decide +kernel
theorem dX9_restore_35 : decode cX9_restore 35 = .ok (.aaload, 1) := by decide +kernel
theorem dX9_restore_36 : decode cX9_restore 36 = .ok (.invokevirtual 144, 3) := by decide +kernel
theorem dX9_restore_39 : decode cX9_restore 39 = .ok (.aload_n 0, 1) := by decide +kernel
theorem dX9_restore_40 : decode cX9_restore 40 = .ok (.getfield 35, 3) := by decide +kernel
theorem dX9_restore_43 : decode cX9_restore 43 = .ok (.aload_n 0, 1) := by decide +kernel
theorem dX9_restore_44 : decode cX9_restore 44 = .ok (.getfield 46, 3) := by decide +kernel
theorem dX9_restore_47 : decode cX9_restore 47 = .ok (.iload_n 1, 1) := by decide +kernel
theorem dX9_restore_48 : decode cX9_restore 48 = .ok (.aaload, 1) := by decide +kernel
theorem dX9_restore_49 : decode cX9_restore 49 = .ok (.invokevirtual 266, 3) := by decide +kernel
theorem dX9_restore_52 : decode cX9_restore 52 = .ok (.iconst 1, 1) := by decide +kernel
theorem dX9_restore_53 : decode cX9_restore 53 = .ok (.ireturn, 1) := by decide +kernel
theorem dX9_kind_0 : decode cX9_kind 0 = .ok (.aload_n 0, 1) := by decide +kernel
theorem dX9_kind_1 : decode cX9_kind 1 = .ok (.iload_n 1, 1) := by decide +kernel
theorem dX9_kind_2 : decode cX9_kind 2 = .ok (.iload_n 2, 1) := by decide +kernel
theorem dX9_kind_3 : decode cX9_kind 3 = .ok (.invokevirtual 155, 3) := by decide +kernel
theorem dX9_kind_6 : decode cX9_kind 6 = .ok (.ifCond .ne 6, 3) := by decide +kernel
theorem dX9_kind_9 : decode cX9_kind 9 = .ok (.ldc 83, 2) := by decide +kernel
theorem dX9_kind_11 : decode cX9_kind 11 = .ok (.ireturn, 1) := by decide +kernel
theorem dX9_kind_12 : decode cX9_kind 12 = .ok (.aload_n 0, 1) := by decide +kernel
theorem dX9_kind_13 : decode cX9_kind 13 = .ok (.getfield 35, 3) := by decide +kernel
theorem dX9_kind_16 : decode cX9_kind 16 = .ok (.invokevirtual 269, 3) := by decide +kernel
theorem dX9_kind_19 : decode cX9_kind 19 = .ok (.ifCond .eq 12, 3) := by decide +kernel
theorem dX9_kind_22 : decode cX9_kind 22 = .ok (.aload_n 0, 1) := by decide +kernel
theorem dX9_kind_23 : decode cX9_kind 23 = .ok (.iload_n 1, 1) := by decide +kernel
theorem dX9_kind_24 : decode cX9_kind 24 = .ok (.iload_n 2, 1) := by decide +kernel
theorem dX9_kind_25 : decode cX9_kind 25 = .ok (.invokevirtual 273, 3) := by decide +kernel
theorem dX9_kind_28 : decode cX9_kind 28 = .ok (.goto 5, 3) := by decide +kernel
theorem dX9_kind_31 : decode cX9_kind 31 = .ok (.ldc 171, 2) := by decide +kernel
theorem dX9_kind_33 : decode cX9_kind 33 = .ok (.ireturn, 1) := by decide +kernel
theorem dX9_as_0 : decode cX9_as 0 = .ok (.aload_n 0, 1) := by decide +kernel
theorem dX9_as_1 : decode cX9_as 1 = .ok (.iload_n 1, 1) := by decide +kernel
theorem dX9_as_2 : decode cX9_as 2 = .ok (.iload_n 2, 1) := by decide +kernel
theorem dX9_as_3 : decode cX9_as 3 = .ok (.invokevirtual 155, 3) := by decide +kernel
theorem dX9_as_6 : decode cX9_as 6 = .ok (.ifCond .eq 12, 3) := by decide +kernel
theorem dX9_as_9 : decode cX9_as 9 = .ok (.iload_n 3, 1) := by decide +kernel
theorem dX9_as_10 : decode cX9_as 10 = .ok (.bipush 6, 2) := by decide +kernel
theorem dX9_as_12 : decode cX9_as 12 = .ok (.invokestatic 79, 3) := by decide +kernel
theorem dX9_as_15 : decode cX9_as 15 = .ok (.ifCond .ne 6, 3) := by decide +kernel
theorem dX9_as_18 : decode cX9_as 18 = .ok (.ldc 83, 2) := by decide +kernel
theorem dX9_as_20 : decode cX9_as 20 = .ok (.ireturn, 1) := by decide +kernel
theorem dX9_as_21 : decode cX9_as 21 = .ok (.aload_n 0, 1) := by decide +kernel
theorem dX9_as_22 : decode cX9_as 22 = .ok (.getfield 35, 3) := by decide +kernel
theorem dX9_as_25 : decode cX9_as 25 = .ok (.invokevirtual 269, 3) := by decide +kernel
theorem dX9_as_28 : decode cX9_as 28 = .ok (.ifCond .ne 6, 3) := by decide +kernel
theorem dX9_as_31 : decode cX9_as 31 = .ok (.ldc 171, 2) := by decide +kernel
theorem dX9_as_33 : decode cX9_as 33 = .ok (.ireturn, 1) := by decide +kernel
theorem dX9_as_34 : decode cX9_as 34 = .ok (.aload_n 0, 1) := by decide +kernel
theorem dX9_as_35 : decode cX9_as 35 = .ok (.iload_n 1, 1) := by decide +kernel
theorem dX9_as_36 : decode cX9_as 36 = .ok (.iload_n 2, 1) := by decide +kernel
theorem dX9_as_37 : decode cX9_as 37 = .ok (.invokevirtual 273, 3) := by decide +kernel
theorem dX9_as_40 : decode cX9_as 40 = .ok (.iload_n 3, 1) := by decide +kernel
theorem dX9_as_41 : decode cX9_as 41 = .ok (.invokestatic 276, 3) := by decide +kernel
theorem dX9_as_44 : decode cX9_as 44 = .ok (.ifCond .ne 9, 3) := by decide +kernel
theorem dX9_as_47 : decode cX9_as 47 = .ok (.aload_n 0, 1) := by decide +kernel
theorem dX9_as_48 : decode cX9_as 48 = .ok (.iconst 3, 1) := by decide +kernel
theorem dX9_as_49 : decode cX9_as 49 = .ok (.invokevirtual 84, 3) := by decide +kernel
theorem dX9_as_52 : decode cX9_as 52 = .ok (.ireturn, 1) := by decide +kernel
theorem dX9_as_53 : decode cX9_as 53 = .ok (.aload_n 0, 1) := by decide +kernel
theorem dX9_as_54 : decode cX9_as 54 = .ok (.aload_n 0, 1) := by decide +kernel
theorem dX9_as_55 : decode cX9_as 55 = .ok (.getfield 35, 3) := by decide +kernel
theorem dX9_as_58 : decode cX9_as 58 = .ok (.getfield 204, 3) := by decide +kernel
theorem dX9_as_61 : decode cX9_as 61 = .ok (.iload_n 1, 1) := by decide +kernel
theorem dX9_as_62 : decode cX9_as 62 = .ok (.aaload, 1) := by decide +kernel
theorem dX9_as_63 : decode cX9_as 63 = .ok (.iload_n 2, 1) := by decide +kernel
theorem dX9_as_64 : decode cX9_as 64 = .ok (.iaload, 1) := by decide +kernel
theorem dX9_as_65 : decode cX9_as 65 = .ok (.invokevirtual 92, 3) := by decide +kernel
theorem dX9_as_68 : decode cX9_as 68 = .ok (.ireturn, 1) := by decide +kernel
theorem dX9_ask_0 : decode cX9_ask 0 = .ok (.aload_n 0, 1) := by decide +kernel
theorem dX9_ask_1 : decode cX9_ask 1 = .ok (.iload_n 1, 1) := by decide +kernel
theorem dX9_ask_2 : decode cX9_ask 2 = .ok (.iload_n 2, 1) := by decide +kernel
theorem dX9_ask_3 : decode cX9_ask 3 = .ok (.invokevirtual 155, 3) := by decide +kernel
theorem dX9_ask_6 : decode cX9_ask 6 = .ok (.ifCond .eq 11, 3) := by decide +kernel
theorem dX9_ask_9 : decode cX9_ask 9 = .ok (.iload_n 3, 1) := by decide +kernel
theorem dX9_ask_10 : decode cX9_ask 10 = .ok (.iconst 2, 1) := by decide +kernel
theorem dX9_ask_11 : decode cX9_ask 11 = .ok (.invokestatic 79, 3) := by decide +kernel
theorem dX9_ask_14 : decode cX9_ask 14 = .ok (.ifCond .ne 6, 3) := by decide +kernel
theorem dX9_ask_17 : decode cX9_ask 17 = .ok (.ldc 83, 2) := by decide +kernel
theorem dX9_ask_19 : decode cX9_ask 19 = .ok (.ireturn, 1) := by decide +kernel
theorem dX9_ask_20 : decode cX9_ask 20 = .ok (.aload_n 0, 1) := by decide +kernel
theorem dX9_ask_21 : decode cX9_ask 21 = .ok (.getfield 35, 3) := by decide +kernel
theorem dX9_ask_24 : decode cX9_ask 24 = .ok (.invokevirtual 269, 3) := by decide +kernel
theorem dX9_ask_27 : decode cX9_ask 27 = .ok (.ifCond .ne 6, 3) := by decide +kernel
theorem dX9_ask_30 : decode cX9_ask 30 = .ok (.ldc 171, 2) := by decide +kernel
theorem dX9_ask_32 : decode cX9_ask 32 = .ok (.ireturn, 1) := by decide +kernel
theorem dX9_ask_33 : decode cX9_ask 33 = .ok (.aload_n 0, 1) := by decide +kernel
theorem dX9_ask_34 : decode cX9_ask 34 = .ok (.getfield 74, 3) := by decide +kernel
theorem dX9_ask_37 : decode cX9_ask 37 = .ok (.aload_n 0, 1) := by decide +kernel
theorem dX9_ask_38 : decode cX9_ask 38 = .ok (.iload_n 1, 1) := by decide +kernel
theorem dX9_ask_39 : decode cX9_ask 39 = .ok (.iload_n 2, 1) := by decide +kernel
theorem dX9_ask_40 : decode cX9_ask 40 = .ok (.invokevirtual 273, 3) := by decide +kernel
theorem dX9_ask_43 : decode cX9_ask 43 = .ok (.putfield 279, 3) := by decide +kernel
theorem dX9_ask_46 : decode cX9_ask 46 = .ok (.aload_n 0, 1) := by decide +kernel
theorem dX9_ask_47 : decode cX9_ask 47 = .ok (.getfield 74, 3) := by decide +kernel
theorem dX9_ask_50 : decode cX9_ask 50 = .ok (.iload_n 2, 1) := by decide +kernel
theorem dX9_ask_51 : decode cX9_ask 51 = .ok (.putfield 282, 3) := by decide +kernel
theorem dX9_ask_54 : decode cX9_ask 54 = .ok (.aload_n 0, 1) := by decide +kernel
theorem dX9_ask_55 : decode cX9_ask 55 = .ok (.getfield 74, 3) := by decide +kernel
theorem dX9_ask_58 : decode cX9_ask 58 = .ok (.aload_n 0, 1) := by decide +kernel
theorem dX9_ask_59 : decode cX9_ask 59 = .ok (.getfield 35, 3) := by decide +kernel
theorem dX9_ask_62 : decode cX9_ask 62 = .ok (.getfield 204, 3) := by decide +kernel
theorem dX9_ask_65 : decode cX9_ask 65 = .ok (.iload_n 1, 1) := by decide +kernel
theorem dX9_ask_66 : decode cX9_ask 66 = .ok (.aaload, 1) := by decide +kernel
theorem dX9_ask_67 : decode cX9_ask 67 = .ok (.iload_n 2, 1) := by decide +kernel
theorem dX9_ask_68 : decode cX9_ask 68 = .ok (.iaload, 1) := by decide +kernel
theorem dX9_ask_69 : decode cX9_ask 69 = .ok (.putfield 285, 3) := by decide +kernel
theorem dX9_ask_72 : decode cX9_ask 72 = .ok (.aload_n 0, 1) := by decide +kernel
theorem dX9_ask_73 : decode cX9_ask 73 = .ok (.getfield 74, 3) := by decide +kernel
theorem dX9_ask_76 : decode cX9_ask 76 = .ok (.aload_n 0, 1) := by decide +kernel
theorem dX9_ask_77 : decode cX9_ask 77 = .ok (.getfield 35, 3) := by decide +kernel
theorem dX9_ask_80 : decode cX9_ask 80 = .ok (.getfield 194, 3) := by decide +kernel
theorem dX9_ask_83 : decode cX9_ask 83 = .ok (.iload_n 1, 1) := by decide +kernel
theorem dX9_ask_84 : decode cX9_ask 84 = .ok (.aaload, 1) := by decide +kernel
theorem dX9_ask_85 : decode cX9_ask 85 = .ok (.iload_n 2, 1) := by decide +kernel
theorem dX9_ask_86 : decode cX9_ask 86 = .ok (.iaload, 1) := by decide +kernel
theorem dX9_ask_87 : decode cX9_ask 87 = .ok (.putfield 287, 3) := by decide +kernel
theorem dX9_ask_90 : decode cX9_ask 90 = .ok (.aload_n 0, 1) := by decide +kernel
theorem dX9_ask_91 : decode cX9_ask 91 = .ok (.getfield 74, 3) := by decide +kernel
theorem dX9_ask_94 : decode cX9_ask 94 = .ok (.aload_n 0, 1) := by decide +kernel
theorem dX9_ask_95 : decode cX9_ask 95 = .ok (.getfield 25, 3) := by decide +kernel
theorem dX9_ask_98 : decode cX9_ask 98 = .ok (.getfield 158, 3) := by decide +kernel
theorem dX9_ask_101 : decode cX9_ask 101 = .ok (.iload_n 1, 1) := by decide +kernel
theorem dX9_ask_102 : decode cX9_ask 102 = .ok (.aaload, 1) := by decide +kernel
theorem dX9_ask_103 : decode cX9_ask 103 = .ok (.getfield 162, 3) := by decide +kernel
theorem dX9_ask_106 : decode cX9_ask 106 = .ok (.iload_n 2, 1) := by decide +kernel
theorem dX9_ask_107 : decode cX9_ask 107 = .ok (.aaload, 1) := by decide +kernel
theorem dX9_ask_108 : decode cX9_ask 108 = .ok (.iconst 4, 1) := by decide +kernel
theorem dX9_ask_109 : decode cX9_ask 109 = .ok (.iaload, 1) := by decide +kernel
theorem dX9_ask_110 : decode cX9_ask 110 = .ok (.putfield 289, 3) := by decide +kernel
theorem dX9_ask_113 : decode cX9_ask 113 = .ok (.aload_n 0, 1) := by decide +kernel
theorem dX9_ask_114 : decode cX9_ask 114 = .ok (.getfield 74, 3) := by decide +kernel
theorem dX9_ask_117 : decode cX9_ask 117 = .ok (.iconst 0, 1) := by decide +kernel
theorem dX9_ask_118 : decode cX9_ask 118 = .ok (.putfield 292, 3) := by decide +kernel
theorem dX9_ask_121 : decode cX9_ask 121 = .ok (.iload_n 3, 1) := by decide +kernel
theorem dX9_ask_122 : decode cX9_ask 122 = .ok (.ifCond .ne 13, 3) := by decide +kernel
theorem dX9_ask_125 : decode cX9_ask 125 = .ok (.aload_n 0, 1) := by decide +kernel
theorem dX9_ask_126 : decode cX9_ask 126 = .ok (.getfield 74, 3) := by decide +kernel
theorem dX9_ask_129 : decode cX9_ask 129 = .ok (.invokevirtual 295, 3) := by decide +kernel
theorem dX9_ask_132 : decode cX9_ask 132 = .ok (.goto 10, 3) := by decide +kernel
theorem dX9_ask_135 : decode cX9_ask 135 = .ok (.aload_n 0, 1) := by decide +kernel
theorem dX9_ask_136 : decode cX9_ask 136 = .ok (.getfield 74, 3) := by decide +kernel
theorem dX9_ask_139 : decode cX9_ask 139 = .ok (.invokevirtual 297, 3) := by decide +kernel
theorem dX9_ask_142 : decode cX9_ask 142 = .ok (.ireturn, 1) := by decide +kernel
theorem dX9_trace_0 : decode cX9_trace 0 = .ok (.iload_n 1, 1) := by decide +kernel
theorem dX9_trace_1 : decode cX9_trace 1 = .ok (.aload_n 0, 1) := by decide +kernel
theorem dX9_trace_2 : decode cX9_trace 2 = .ok (.getfield 74, 3) := by decide +kernel
theorem dX9_trace_5 : decode cX9_trace 5 = .ok (.getfield 292, 3) := by decide +kernel
theorem dX9_trace_8 : decode cX9_trace 8 = .ok (.invokestatic 79, 3) := by decide +kernel
theorem dX9_trace_11 : decode cX9_trace 11 = .ok (.ifCond .eq 15, 3) := by decide +kernel
theorem dX9_trace_14 : decode cX9_trace 14 = .ok (.aload_n 0, 1) := by decide +kernel
theorem dX9_trace_15 : decode cX9_trace 15 = .ok (.getfield 74, 3) := by decide +kernel
theorem dX9_trace_18 : decode cX9_trace 18 = .ok (.getfield 300, 3) := by decide +kernel
theorem dX9_trace_21 : decode cX9_trace 21 = .ok (.iload_n 1, 1) := by decide +kernel
theorem dX9_trace_22 : decode cX9_trace 22 = .ok (.iaload, 1) := by decide +kernel
theorem dX9_trace_23 : decode cX9_trace 23 = .ok (.goto 5, 3) := by decide +kernel
theorem dX9_trace_26 : decode cX9_trace 26 = .ok (.ldc 200, 2) := by decide +kernel
theorem dX9_trace_28 : decode cX9_trace 28 = .ok (.ireturn, 1) := by decide +kernel
theorem dX9_count_0 : decode cX9_count 0 = .ok (.iload_n 1, 1) := by decide +kernel
theorem dX9_count_1 : decode cX9_count 1 = .ok (.tableswitch 108 0 7 #[47, 52, 52, 67, 67, 82, 90, 100], 47) := by decide +kernel
theorem dX9_count_48 : decode cX9_count 48 = .ok (.aload_n 0, 1) := by decide +kernel
theorem dX9_count_49 : decode cX9_count 49 = .ok (.invokevirtual 303, 3) := by decide +kernel
theorem dX9_count_52 : decode cX9_count 52 = .ok (.ireturn, 1) := by decide +kernel
theorem dX9_count_53 : decode cX9_count 53 = .ok (.aload_n 0, 1) := by decide +kernel
theorem dX9_count_54 : decode cX9_count 54 = .ok (.getfield 25, 3) := by decide +kernel
theorem dX9_count_57 : decode cX9_count 57 = .ok (.getfield 158, 3) := by decide +kernel
theorem dX9_count_60 : decode cX9_count 60 = .ok (.iload_n 1, 1) := by decide +kernel
theorem dX9_count_61 : decode cX9_count 61 = .ok (.iconst 1, 1) := by decide +kernel
theorem dX9_count_62 : decode cX9_count 62 = .ok (.isub, 1) := by decide +kernel
theorem dX9_count_63 : decode cX9_count 63 = .ok (.aaload, 1) := by decide +kernel
theorem dX9_count_64 : decode cX9_count 64 = .ok (.getfield 224, 3) := by decide +kernel
theorem dX9_count_67 : decode cX9_count 67 = .ok (.ireturn, 1) := by decide +kernel
theorem dX9_count_68 : decode cX9_count 68 = .ok (.aload_n 0, 1) := by decide +kernel
theorem dX9_count_69 : decode cX9_count 69 = .ok (.getfield 25, 3) := by decide +kernel
theorem dX9_count_72 : decode cX9_count 72 = .ok (.getfield 158, 3) := by decide +kernel
theorem dX9_count_75 : decode cX9_count 75 = .ok (.iload_n 1, 1) := by decide +kernel
theorem dX9_count_76 : decode cX9_count 76 = .ok (.iconst 3, 1) := by decide +kernel
theorem dX9_count_77 : decode cX9_count 77 = .ok (.isub, 1) := by decide +kernel
theorem dX9_count_78 : decode cX9_count 78 = .ok (.aaload, 1) := by decide +kernel
theorem dX9_count_79 : decode cX9_count 79 = .ok (.getfield 306, 3) := by decide +kernel
theorem dX9_count_82 : decode cX9_count 82 = .ok (.ireturn, 1) := by decide +kernel
theorem dX9_count_83 : decode cX9_count 83 = .ok (.aload_n 0, 1) := by decide +kernel
theorem dX9_count_84 : decode cX9_count 84 = .ok (.getfield 18, 3) := by decide +kernel
theorem dX9_count_87 : decode cX9_count 87 = .ok (.getfield 126, 3) := by decide +kernel
theorem dX9_count_90 : decode cX9_count 90 = .ok (.ireturn, 1) := by decide +kernel
theorem dX9_count_91 : decode cX9_count 91 = .ok (.aload_n 0, 1) := by decide +kernel
theorem dX9_count_92 : decode cX9_count 92 = .ok (.getfield 25, 3) := by decide +kernel
theorem dX9_count_95 : decode cX9_count 95 = .ok (.getfield 309, 3) := by decide +kernel
theorem dX9_count_98 : decode cX9_count 98 = .ok (.iconst 2, 1) := by decide +kernel
theorem dX9_count_99 : decode cX9_count 99 = .ok (.iaload, 1) := by decide +kernel
theorem dX9_count_100 : decode cX9_count 100 = .ok (.ireturn, 1) := by decide +kernel
theorem dX9_count_101 : decode cX9_count 101 = .ok (.aload_n 0, 1) := by decide +kernel
theorem dX9_count_102 : decode cX9_count 102 = .ok (.getfield 35, 3) := by decide +kernel
theorem dX9_count_105 : decode cX9_count 105 = .ok (.invokevirtual 207, 3) := by decide +kernel
theorem dX9_count_108 : decode cX9_count 108 = .ok (.ireturn, 1) := by decide +kernel
theorem dX9_count_109 : decode cX9_count 109 = .ok (.ldc 83, 2) := by decide +kernel
theorem dX9_count_111 : decode cX9_count 111 = .ok (.ireturn, 1) := by decide +kernel
theorem dX9_status_0 : decode cX9_status 0 = .ok (.aload_n 0, 1) := by decide +kernel
theorem dX9_status_1 : decode cX9_status 1 = .ok (.getfield 312, 3) := by decide +kernel
theorem dX9_status_4 : decode cX9_status 4 = .ok (.ireturn, 1) := by decide +kernel
theorem dX9_within_0 : decode cX9_within 0 = .ok (.iload_n 0, 1) := by decide +kernel
theorem dX9_within_1 : decode cX9_within 1 = .ok (.ifCond .lt 12, 3) := by decide +kernel
theorem dX9_within_4 : decode cX9_within 4 = .ok (.iload_n 0, 1) := by decide +kernel
theorem dX9_within_5 : decode cX9_within 5 = .ok (.iload_n 1, 1) := by decide +kernel
theorem dX9_within_6 : decode cX9_within 6 = .ok (.if_icmp .ge 7, 3) := by decide +kernel
theorem dX9_within_9 : decode cX9_within 9 = .ok (.iconst 1, 1) := by decide +kernel
theorem dX9_within_10 : decode cX9_within 10 = .ok (.goto 4, 3) := by decide +kernel
theorem dX9_within_13 : decode cX9_within 13 = .ok (.iconst 0, 1) := by decide +kernel
theorem dX9_within_14 : decode cX9_within 14 = .ok (.ireturn, 1) := by decide +kernel
theorem dX9_found_0 : decode cX9_found 0 = .ok (.aload_n 0, 1) := by decide +kernel
theorem dX9_found_1 : decode cX9_found 1 = .ok (.iload_n 1, 1) := by decide +kernel
theorem dX9_found_2 : decode cX9_found 2 = .ok (.putfield 312, 3) := by decide +kernel
theorem dX9_found_5 : decode cX9_found 5 = .ok (.ldc_w 315, 3) := by decide +kernel
theorem dX9_found_8 : decode cX9_found 8 = .ok (.iload_n 1, 1) := by decide +kernel
theorem dX9_found_9 : decode cX9_found 9 = .ok (.isub, 1) := by decide +kernel
theorem dX9_found_10 : decode cX9_found 10 = .ok (.ireturn, 1) := by decide +kernel
theorem dX9_well_0 : decode cX9_well 0 = .ok (.aload_n 0, 1) := by decide +kernel
theorem dX9_well_1 : decode cX9_well 1 = .ok (.iconst 0, 1) := by decide +kernel
theorem dX9_well_2 : decode cX9_well 2 = .ok (.putfield 312, 3) := by decide +kernel
theorem dX9_well_5 : decode cX9_well 5 = .ok (.iload_n 1, 1) := by decide +kernel
theorem dX9_well_6 : decode cX9_well 6 = .ok (.ireturn, 1) := by decide +kernel
theorem dX9_isPuller_0 : decode cX9_isPuller 0 = .ok (.iload_n 1, 1) := by decide +kernel
theorem dX9_isPuller_1 : decode cX9_isPuller 1 = .ok (.iconst 2, 1) := by decide +kernel
theorem dX9_isPuller_2 : decode cX9_isPuller 2 = .ok (.invokestatic 79, 3) := by decide +kernel
theorem dX9_isPuller_5 : decode cX9_isPuller 5 = .ok (.ifCond .eq 26, 3) := by decide +kernel
theorem dX9_isPuller_8 : decode cX9_isPuller 8 = .ok (.iload_n 2, 1) := by decide +kernel
theorem dX9_isPuller_9 : decode cX9_isPuller 9 = .ok (.aload_n 0, 1) := by decide +kernel
theorem dX9_isPuller_10 : decode cX9_isPuller 10 = .ok (.getfield 25, 3) := by decide +kernel
theorem dX9_isPuller_13 : decode cX9_isPuller 13 = .ok (.getfield 158, 3) := by decide +kernel
theorem dX9_isPuller_16 : decode cX9_isPuller 16 = .ok (.iload_n 1, 1) := by decide +kernel
theorem dX9_isPuller_17 : decode cX9_isPuller 17 = .ok (.aaload, 1) := by decide +kernel
theorem dX9_isPuller_18 : decode cX9_isPuller 18 = .ok (.getfield 224, 3) := by decide +kernel
theorem dX9_isPuller_21 : decode cX9_isPuller 21 = .ok (.invokestatic 79, 3) := by decide +kernel
theorem dX9_isPuller_24 : decode cX9_isPuller 24 = .ok (.ifCond .eq 7, 3) := by decide +kernel
theorem dX9_isPuller_27 : decode cX9_isPuller 27 = .ok (.iconst 1, 1) := by decide +kernel
theorem dX9_isPuller_28 : decode cX9_isPuller 28 = .ok (.goto 4, 3) := by decide +kernel
theorem dX9_isPuller_31 : decode cX9_isPuller 31 = .ok (.iconst 0, 1) := by decide +kernel
theorem dX9_isPuller_32 : decode cX9_isPuller 32 = .ok (.ireturn, 1) := by decide +kernel
theorem dX9_kindOf_0 : decode cX9_kindOf 0 = .ok (.aload_n 0, 1) := by decide +kernel
theorem dX9_kindOf_1 : decode cX9_kindOf 1 = .ok (.getfield 35, 3) := by decide +kernel
theorem dX9_kindOf_4 : decode cX9_kindOf 4 = .ok (.getfield 201, 3) := by decide +kernel
theorem dX9_kindOf_7 : decode cX9_kindOf 7 = .ok (.iload_n 1, 1) := by decide +kernel
theorem dX9_kindOf_8 : decode cX9_kindOf 8 = .ok (.aaload, 1) := by decide +kernel
theorem dX9_kindOf_9 : decode cX9_kindOf 9 = .ok (.iload_n 2, 1) := by decide +kernel
theorem dX9_kindOf_10 : decode cX9_kindOf 10 = .ok (.iaload, 1) := by decide +kernel
theorem dX9_kindOf_11 : decode cX9_kindOf 11 = .ok (.iconst 1, 1) := by decide +kernel
theorem dX9_kindOf_12 : decode cX9_kindOf 12 = .ok (.iadd, 1) := by decide +kernel
theorem dX9_kindOf_13 : decode cX9_kindOf 13 = .ok (.ireturn, 1) := by decide +kernel
theorem dX9_sheetsThatAre_0 : decode cX9_sheetsThatAre 0 = .ok (.iconst 0, 1) := by decide +kernel
theorem dX9_sheetsThatAre_1 : decode cX9_sheetsThatAre 1 = .ok (.istore_n 1, 1) := by decide +kernel
theorem dX9_sheetsThatAre_2 : decode cX9_sheetsThatAre 2 = .ok (.iconst 0, 1) := by decide +kernel
theorem dX9_sheetsThatAre_3 : decode cX9_sheetsThatAre 3 = .ok (.istore_n 2, 1) := by decide +kernel
theorem dX9_sheetsThatAre_4 : decode cX9_sheetsThatAre 4 = .ok (.iload_n 2, 1) := by decide +kernel
theorem dX9_sheetsThatAre_5 : decode cX9_sheetsThatAre 5 = .ok (.bipush 8, 2) := by decide +kernel
theorem dX9_sheetsThatAre_7 : decode cX9_sheetsThatAre 7 = .ok (.if_icmp .ge 24, 3) := by decide +kernel
theorem dX9_sheetsThatAre_10 : decode cX9_sheetsThatAre 10 = .ok (.aload_n 0, 1) := by decide +kernel
theorem dX9_sheetsThatAre_11 : decode cX9_sheetsThatAre 11 = .ok (.getfield 11, 3) := by decide +kernel
theorem dX9_sheetsThatAre_14 : decode cX9_sheetsThatAre 14 = .ok (.iload_n 2, 1) := by decide +kernel
theorem dX9_sheetsThatAre_15 : decode cX9_sheetsThatAre 15 = .ok (.aaload, 1) := by decide +kernel
theorem dX9_sheetsThatAre_16 : decode cX9_sheetsThatAre 16 = .ok (.getfield 95, 3) := by decide +kernel
theorem dX9_sheetsThatAre_19 : decode cX9_sheetsThatAre 19 = .ok (.ifCond .ne 6, 3) := by decide +kernel
theorem dX9_sheetsThatAre_22 : decode cX9_sheetsThatAre 22 = .ok (.iinc 1 1, 3) := by decide +kernel
theorem dX9_sheetsThatAre_25 : decode cX9_sheetsThatAre 25 = .ok (.iinc 2 1, 3) := by decide +kernel
theorem dX9_sheetsThatAre_28 : decode cX9_sheetsThatAre 28 = .ok (.goto (-24), 3) := by decide +kernel
theorem dX9_sheetsThatAre_31 : decode cX9_sheetsThatAre 31 = .ok (.iload_n 1, 1) := by decide +kernel
theorem dX9_sheetsThatAre_32 : decode cX9_sheetsThatAre 32 = .ok (.ireturn, 1) := by decide +kernel
theorem dX9_areOrders_0 : decode cX9_areOrders 0 = .ok (.iload_n 1, 1) := by decide +kernel
theorem dX9_areOrders_1 : decode cX9_areOrders 1 = .ok (.istore_n 3, 1) := by decide +kernel
theorem dX9_areOrders_2 : decode cX9_areOrders 2 = .ok (.iload_n 3, 1) := by decide +kernel
theorem dX9_areOrders_3 : decode cX9_areOrders 3 = .ok (.iload_n 1, 1) := by decide +kernel
theorem dX9_areOrders_4 : decode cX9_areOrders 4 = .ok (.iload_n 2, 1) := by decide +kernel
theorem dX9_areOrders_5 : decode cX9_areOrders 5 = .ok (.iadd, 1) := by decide +kernel
theorem dX9_areOrders_6 : decode cX9_areOrders 6 = .ok (.if_icmp .ge 30, 3) := by decide +kernel
theorem dX9_areOrders_9 : decode cX9_areOrders 9 = .ok (.aload_n 0, 1) := by decide +kernel
theorem dX9_areOrders_10 : decode cX9_areOrders 10 = .ok (.getfield 102, 3) := by decide +kernel
theorem dX9_areOrders_13 : decode cX9_areOrders 13 = .ok (.iload_n 3, 1) := by decide +kernel
theorem dX9_areOrders_14 : decode cX9_areOrders 14 = .ok (.iaload, 1) := by decide +kernel
theorem dX9_areOrders_15 : decode cX9_areOrders 15 = .ok (.ifCond .lt 13, 3) := by decide +kernel
theorem dX9_areOrders_18 : decode cX9_areOrders 18 = .ok (.aload_n 0, 1) := by decide +kernel
theorem dX9_areOrders_19 : decode cX9_areOrders 19 = .ok (.getfield 102, 3) := by decide +kernel
theorem dX9_areOrders_22 : decode cX9_areOrders 22 = .ok (.iload_n 3, 1) := by decide +kernel
theorem dX9_areOrders_23 : decode cX9_areOrders 23 = .ok (.iaload, 1) := by decide +kernel
theorem dX9_areOrders_24 : decode cX9_areOrders 24 = .ok (.iconst 3, 1) := by decide +kernel
theorem dX9_areOrders_25 : decode cX9_areOrders 25 = .ok (.if_icmp .le 5, 3) := by decide +kernel
theorem dX9_areOrders_28 : decode cX9_areOrders 28 = .ok (.iconst 0, 1) := by decide +kernel
theorem dX9_areOrders_29 : decode cX9_areOrders 29 = .ok (.ireturn, 1) := by decide +kernel
theorem dX9_areOrders_30 : decode cX9_areOrders 30 = .ok (.iinc 3 1, 3) := by decide +kernel
theorem dX9_areOrders_33 : decode cX9_areOrders 33 = .ok (.goto (-31), 3) := by decide +kernel
theorem dX9_areOrders_36 : decode cX9_areOrders 36 = .ok (.iconst 1, 1) := by decide +kernel
theorem dX9_areOrders_37 : decode cX9_areOrders 37 = .ok (.ireturn, 1) := by decide +kernel
theorem dX9_leftBehind_0 : decode cX9_leftBehind 0 = .ok (.iconst 0, 1) := by decide +kernel
theorem dX9_leftBehind_1 : decode cX9_leftBehind 1 = .ok (.istore 5, 2) := by decide +kernel
theorem dX9_leftBehind_3 : decode cX9_leftBehind 3 = .ok (.ldc 200, 2) := by decide +kernel
theorem dX9_leftBehind_5 : decode cX9_leftBehind 5 = .ok (.istore 6, 2) := by decide +kernel
theorem dX9_leftBehind_7 : decode cX9_leftBehind 7 = .ok (.ldc 200, 2) := by decide +kernel
theorem dX9_leftBehind_9 : decode cX9_leftBehind 9 = .ok (.istore 7, 2) := by decide +kernel
theorem dX9_leftBehind_11 : decode cX9_leftBehind 11 = .ok (.iconst 0, 1) := by decide +kernel
theorem dX9_leftBehind_12 : decode cX9_leftBehind 12 = .ok (.istore 8, 2) := by decide +kernel
theorem dX9_leftBehind_14 : decode cX9_leftBehind 14 = .ok (.iload 8, 2) := by decide +kernel
theorem dX9_leftBehind_16 : decode cX9_leftBehind 16 = .ok (.bipush 9, 2) := by decide +kernel
theorem dX9_leftBehind_18 : decode cX9_leftBehind 18 = .ok (.if_icmp .gt 64, 3) := by decide +kernel
theorem dX9_leftBehind_21 : decode cX9_leftBehind 21 = .ok (.aload_n 0, 1) := by decide +kernel
theorem dX9_leftBehind_22 : decode cX9_leftBehind 22 = .ok (.iload_n 1, 1) := by decide +kernel
theorem dX9_leftBehind_23 : decode cX9_leftBehind 23 = .ok (.iload_n 2, 1) := by decide +kernel
theorem dX9_leftBehind_24 : decode cX9_leftBehind 24 = .ok (.iload_n 3, 1) := by decide +kernel
theorem dX9_leftBehind_25 : decode cX9_leftBehind 25 = .ok (.iload 8, 2) := by decide +kernel
theorem dX9_leftBehind_27 : decode cX9_leftBehind 27 = .ok (.invokestatic 316, 3) := by decide +kernel
theorem dX9_leftBehind_30 : decode cX9_leftBehind 30 = .ok (.istore 9, 2) := by decide +kernel
theorem dX9_leftBehind_32 : decode cX9_leftBehind 32 = .ok (.iload 9, 2) := by decide +kernel
theorem dX9_leftBehind_34 : decode cX9_leftBehind 34 = .ok (.ifCond .lt 42, 3) := by decide +kernel
theorem dX9_leftBehind_37 : decode cX9_leftBehind 37 = .ok (.iload 5, 2) := by decide +kernel
theorem dX9_leftBehind_39 : decode cX9_leftBehind 39 = .ok (.iconst 1, 1) := by decide +kernel
theorem dX9_leftBehind_40 : decode cX9_leftBehind 40 = .ok (.iload 8, 2) := by decide +kernel
theorem dX9_leftBehind_42 : decode cX9_leftBehind 42 = .ok (.ishl, 1) := by decide +kernel
theorem dX9_leftBehind_43 : decode cX9_leftBehind 43 = .ok (.ior, 1) := by decide +kernel
theorem dX9_leftBehind_44 : decode cX9_leftBehind 44 = .ok (.istore 5, 2) := by decide +kernel
theorem dX9_leftBehind_46 : decode cX9_leftBehind 46 = .ok (.iload 6, 2) := by decide +kernel
theorem dX9_leftBehind_48 : decode cX9_leftBehind 48 = .ok (.ldc 200, 2) := by decide +kernel
theorem dX9_leftBehind_50 : decode cX9_leftBehind 50 = .ok (.if_icmp .ne 8, 3) := by decide +kernel
theorem dX9_leftBehind_53 : decode cX9_leftBehind 53 = .ok (.iload 9, 2) := by decide +kernel
theorem dX9_leftBehind_55 : decode cX9_leftBehind 55 = .ok (.goto 10, 3) := by decide +kernel
theorem dX9_leftBehind_58 : decode cX9_leftBehind 58 = .ok (.iload 6, 2) := by decide +kernel
theorem dX9_leftBehind_60 : decode cX9_leftBehind 60 = .ok (.iload 9, 2) := by decide +kernel
theorem dX9_leftBehind_62 : decode cX9_leftBehind 62 = .ok (.invokestatic 319, 3) := by decide +kernel
theorem dX9_leftBehind_65 : decode cX9_leftBehind 65 = .ok (.istore 6, 2) := by decide +kernel
theorem dX9_leftBehind_67 : decode cX9_leftBehind 67 = .ok (.iload 7, 2) := by decide +kernel
theorem dX9_leftBehind_69 : decode cX9_leftBehind 69 = .ok (.iload 9, 2) := by decide +kernel
theorem dX9_leftBehind_71 : decode cX9_leftBehind 71 = .ok (.invokestatic 324, 3) := by decide +kernel
theorem dX9_leftBehind_74 : decode cX9_leftBehind 74 = .ok (.istore 7, 2) := by decide +kernel
theorem dX9_leftBehind_76 : decode cX9_leftBehind 76 = .ok (.iinc 8 1, 3) := by decide +kernel
theorem dX9_leftBehind_79 : decode cX9_leftBehind 79 = .ok (.goto (-65), 3) := by decide +kernel
theorem dX9_leftBehind_82 : decode cX9_leftBehind 82 = .ok (.iload 4, 2) := by decide +kernel
theorem dX9_leftBehind_84 : decode cX9_leftBehind 84 = .ok (.ifCond .ne 8, 3) := by decide +kernel
theorem dX9_leftBehind_87 : decode cX9_leftBehind 87 = .ok (.iload 5, 2) := by decide +kernel
theorem dX9_leftBehind_89 : decode cX9_leftBehind 89 = .ok (.goto 16, 3) := by decide +kernel
theorem dX9_leftBehind_92 : decode cX9_leftBehind 92 = .ok (.iload 4, 2) := by decide +kernel
theorem dX9_leftBehind_94 : decode cX9_leftBehind 94 = .ok (.iconst 1, 1) := by decide +kernel
theorem dX9_leftBehind_95 : decode cX9_leftBehind 95 = .ok (.if_icmp .ne 8, 3) := by decide +kernel
theorem dX9_leftBehind_98 : decode cX9_leftBehind 98 = .ok (.iload 6, 2) := by decide +kernel
theorem dX9_leftBehind_100 : decode cX9_leftBehind 100 = .ok (.goto 5, 3) := by decide +kernel
theorem dX9_leftBehind_103 : decode cX9_leftBehind 103 = .ok (.iload 7, 2) := by decide +kernel
theorem dX9_leftBehind_105 : decode cX9_leftBehind 105 = .ok (.ireturn, 1) := by decide +kernel
theorem dX9_breathLeft_0 : decode cX9_breathLeft 0 = .ok (.iload 4, 2) := by decide +kernel
theorem dX9_breathLeft_2 : decode cX9_breathLeft 2 = .ok (.istore 5, 2) := by decide +kernel
theorem dX9_breathLeft_4 : decode cX9_breathLeft 4 = .ok (.iload_n 1, 1) := by decide +kernel
theorem dX9_breathLeft_5 : decode cX9_breathLeft 5 = .ok (.istore 6, 2) := by decide +kernel
theorem dX9_breathLeft_7 : decode cX9_breathLeft 7 = .ok (.iload 6, 2) := by decide +kernel
theorem dX9_breathLeft_9 : decode cX9_breathLeft 9 = .ok (.iload_n 1, 1) := by decide +kernel
theorem dX9_breathLeft_10 : decode cX9_breathLeft 10 = .ok (.iload_n 2, 1) := by decide +kernel
theorem dX9_breathLeft_11 : decode cX9_breathLeft 11 = .ok (.iadd, 1) := by decide +kernel
theorem dX9_breathLeft_12 : decode cX9_breathLeft 12 = .ok (.if_icmp .ge 43, 3) := by decide +kernel
theorem dX9_breathLeft_15 : decode cX9_breathLeft 15 = .ok (.iload 5, 2) := by decide +kernel
theorem dX9_breathLeft_17 : decode cX9_breathLeft 17 = .ok (.ifCond .lt 38, 3) := by decide +kernel
theorem dX9_breathLeft_20 : decode cX9_breathLeft 20 = .ok (.aload_n 0, 1) := by decide +kernel
theorem dX9_breathLeft_21 : decode cX9_breathLeft 21 = .ok (.getfield 102, 3) := by decide +kernel
theorem dX9_breathLeft_24 : decode cX9_breathLeft 24 = .ok (.iload 6, 2) := by decide +kernel
theorem dX9_breathLeft_26 : decode cX9_breathLeft 26 = .ok (.iaload, 1) := by decide +kernel
theorem dX9_breathLeft_27 : decode cX9_breathLeft 27 = .ok (.iload_n 3, 1) := by decide +kernel
theorem dX9_breathLeft_28 : decode cX9_breathLeft 28 = .ok (.if_icmp .lt 10, 3) := by decide +kernel
theorem dX9_breathLeft_31 : decode cX9_breathLeft 31 = .ok (.iload 5, 2) := by decide +kernel
theorem dX9_breathLeft_33 : decode cX9_breathLeft 33 = .ok (.iconst 2, 1) := by decide +kernel
theorem dX9_breathLeft_34 : decode cX9_breathLeft 34 = .ok (.isub, 1) := by decide +kernel
theorem dX9_breathLeft_35 : decode cX9_breathLeft 35 = .ok (.goto 12, 3) := by decide +kernel
theorem dX9_breathLeft_38 : decode cX9_breathLeft 38 = .ok (.bipush 9, 2) := by decide +kernel
theorem dX9_breathLeft_40 : decode cX9_breathLeft 40 = .ok (.iload 5, 2) := by decide +kernel
theorem dX9_breathLeft_42 : decode cX9_breathLeft 42 = .ok (.iconst 1, 1) := by decide +kernel
theorem dX9_breathLeft_43 : decode cX9_breathLeft 43 = .ok (.iadd, 1) := by decide +kernel
theorem dX9_breathLeft_44 : decode cX9_breathLeft 44 = .ok (.invokestatic 319, 3) := by decide +kernel
theorem dX9_breathLeft_47 : decode cX9_breathLeft 47 = .ok (.istore 5, 2) := by decide +kernel
theorem dX9_breathLeft_49 : decode cX9_breathLeft 49 = .ok (.iinc 6 1, 3) := by decide +kernel
theorem dX9_breathLeft_52 : decode cX9_breathLeft 52 = .ok (.goto (-45), 3) := by decide +kernel
theorem dX9_breathLeft_55 : decode cX9_breathLeft 55 = .ok (.iload 5, 2) := by decide +kernel
theorem dX9_breathLeft_57 : decode cX9_breathLeft 57 = .ok (.ireturn, 1) := by decide +kernel
