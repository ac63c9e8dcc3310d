theorem dX10_go_6 : decode cX10_go 6 = .ok (.i2l, 1) := by decide +kernel
theorem dX10_go_7 : decode cX10_go 7 = .ok (.lconst 1, 1) := by decide +kernel
theorem dX10_go_8 : decode cX10_go 8 = .ok (.ldc2_w 257, 3) := by decide +kernel
theorem dX10_go_11 : decode cX10_go 11 = .ok (.invokestatic 72, 3) := by decide +kernel
theorem dX10_go_14 : decode cX10_go 14 = .ok (.ifCond .ne 6, 3) := by decide +kernel
theorem dX10_go_17 : decode cX10_go 17 = .ok (.ldc 82, 2) := by decide +kernel
theorem dX10_go_19 : decode cX10_go 19 = .ok (.ireturn, 1) := by decide +kernel
theorem dX10_go_20 : decode cX10_go 20 = .ok (.aload_n 0, 1) := by decide +kernel
theorem dX10_go_21 : decode cX10_go 21 = .ok (.getfield 25, 3) := by decide +kernel
theorem dX10_go_24 : decode cX10_go 24 = .ok (.iconst 2, 1) := by decide +kernel
theorem dX10_go_25 : decode cX10_go 25 = .ok (.iaload, 1) := by decide +kernel
theorem dX10_go_26 : decode cX10_go 26 = .ok (.ifCond .ne 8, 3) := by decide +kernel
theorem dX10_go_29 : decode cX10_go 29 = .ok (.ldc 230, 2) := by decide +kernel
theorem dX10_go_31 : decode cX10_go 31 = .ok (.goto 8, 3) := by decide +kernel
theorem dX10_go_34 : decode cX10_go 34 = .ok (.aload_n 0, 1) := by decide +kernel
theorem dX10_go_35 : decode cX10_go 35 = .ok (.iload_n 1, 1) := by decide +kernel
theorem dX10_go_36 : decode cX10_go 36 = .ok (.invokevirtual 259, 3) := by decide +kernel
theorem dX10_go_39 : decode cX10_go 39 = .ok (.ireturn, 1) := by decide +kernel
theorem dX10_told_0 : decode cX10_told 0 = .ok (.aload_n 0, 1) := by decide +kernel
theorem dX10_told_1 : decode cX10_told 1 = .ok (.iconst 0, 1) := by decide +kernel
theorem dX10_told_2 : decode cX10_told 2 = .ok (.putfield 62, 3) := by decide +kernel
theorem dX10_told_5 : decode cX10_told 5 = .ok (.iload_n 1, 1) := by decide +kernel
theorem dX10_told_6 : decode cX10_told 6 = .ok (.invokestatic 76, 3) := by decide +kernel
theorem dX10_told_9 : decode cX10_told 9 = .ok (.ifCond .eq 15, 3) := by decide +kernel
theorem dX10_told_12 : decode cX10_told 12 = .ok (.iload_n 3, 1) := by decide +kernel
theorem dX10_told_13 : decode cX10_told 13 = .ok (.i2l, 1) := by decide +kernel
theorem dX10_told_14 : decode cX10_told 14 = .ok (.lconst 1, 1) := by decide +kernel
theorem dX10_told_15 : decode cX10_told 15 = .ok (.ldc2_w 262, 3) := by decide +kernel
theorem dX10_told_18 : decode cX10_told 18 = .ok (.invokestatic 72, 3) := by decide +kernel
theorem dX10_told_21 : decode cX10_told 21 = .ok (.ifCond .ne 6, 3) := by decide +kernel
theorem dX10_told_24 : decode cX10_told 24 = .ok (.ldc 82, 2) := by decide +kernel
theorem dX10_told_26 : decode cX10_told 26 = .ok (.ireturn, 1) := by decide +kernel
theorem dX10_told_27 : decode cX10_told 27 = .ok (.aload_n 0, 1) := by decide +kernel
theorem dX10_told_28 : decode cX10_told 28 = .ok (.getfield 25, 3) := by decide +kernel
theorem dX10_told_31 : decode cX10_told 31 = .ok (.iconst 2, 1) := by decide +kernel
theorem dX10_told_32 : decode cX10_told 32 = .ok (.iaload, 1) := by decide +kernel
theorem dX10_told_33 : decode cX10_told 33 = .ok (.ifCond .ne 6, 3) := by decide +kernel
theorem dX10_told_36 : decode cX10_told 36 = .ok (.ldc 230, 2) := by decide +kernel
theorem dX10_told_38 : decode cX10_told 38 = .ok (.ireturn, 1) := by decide +kernel
theorem dX10_told_39 : decode cX10_told 39 = .ok (.aload_n 0, 1) := by decide +kernel
theorem dX10_told_40 : decode cX10_told 40 = .ok (.getfield 7, 3) := by decide +kernel
theorem dX10_told_43 : decode cX10_told 43 = .ok (.iload_n 1, 1) := by decide +kernel
theorem dX10_told_44 : decode cX10_told 44 = .ok (.iaload, 1) := by decide +kernel
theorem dX10_told_45 : decode cX10_told 45 = .ok (.ifCond .ge 9, 3) := by decide +kernel
theorem dX10_told_48 : decode cX10_told 48 = .ok (.aload_n 0, 1) := by decide +kernel
theorem dX10_told_49 : decode cX10_told 49 = .ok (.iconst 1, 1) := by decide +kernel
theorem dX10_told_50 : decode cX10_told 50 = .ok (.invokevirtual 83, 3) := by decide +kernel
theorem dX10_told_53 : decode cX10_told 53 = .ok (.ireturn, 1) := by decide +kernel
theorem dX10_told_54 : decode cX10_told 54 = .ok (.iload_n 2, 1) := by decide +kernel
theorem dX10_told_55 : decode cX10_told 55 = .ok (.ifCond .lt 21, 3) := by decide +kernel
theorem dX10_told_58 : decode cX10_told 58 = .ok (.iload_n 2, 1) := by decide +kernel
theorem dX10_told_59 : decode cX10_told 59 = .ok (.i2l, 1) := by decide +kernel
theorem dX10_told_60 : decode cX10_told 60 = .ok (.iconst 2, 1) := by decide +kernel
theorem dX10_told_61 : decode cX10_told 61 = .ok (.iload_n 3, 1) := by decide +kernel
theorem dX10_told_62 : decode cX10_told 62 = .ok (.imul, 1) := by decide +kernel
theorem dX10_told_63 : decode cX10_told 63 = .ok (.i2l, 1) := by decide +kernel
theorem dX10_told_64 : decode cX10_told 64 = .ok (.ladd, 1) := by decide +kernel
theorem dX10_told_65 : decode cX10_told 65 = .ok (.aload_n 0, 1) := by decide +kernel
theorem dX10_told_66 : decode cX10_told 66 = .ok (.getfield 13, 3) := by decide +kernel
theorem dX10_told_69 : decode cX10_told 69 = .ok (.iload_n 1, 1) := by decide +kernel
theorem dX10_told_70 : decode cX10_told 70 = .ok (.iaload, 1) := by decide +kernel
theorem dX10_told_71 : decode cX10_told 71 = .ok (.i2l, 1) := by decide +kernel
theorem dX10_told_72 : decode cX10_told 72 = .ok (.lcmp, 1) := by decide +kernel
theorem dX10_told_73 : decode cX10_told 73 = .ok (.ifCond .le 9, 3) := by decide +kernel
theorem dX10_told_76 : decode cX10_told 76 = .ok (.aload_n 0, 1) := by decide +kernel
theorem dX10_told_77 : decode cX10_told 77 = .ok (.iconst 2, 1) := by decide +kernel
theorem dX10_told_78 : decode cX10_told 78 = .ok (.invokevirtual 83, 3) := by decide +kernel
theorem dX10_told_81 : decode cX10_told 81 = .ok (.ireturn, 1) := by decide +kernel
theorem dX10_told_82 : decode cX10_told 82 = .ok (.bipush 40, 2) := by decide +kernel
theorem dX10_told_84 : decode cX10_told 84 = .ok (.iload_n 1, 1) := by decide +kernel
theorem dX10_told_85 : decode cX10_told 85 = .ok (.imul, 1) := by decide +kernel
theorem dX10_told_86 : decode cX10_told 86 = .ok (.iload_n 2, 1) := by decide +kernel
theorem dX10_told_87 : decode cX10_told 87 = .ok (.iadd, 1) := by decide +kernel
theorem dX10_told_88 : decode cX10_told 88 = .ok (.istore 4, 2) := by decide +kernel
theorem dX10_told_90 : decode cX10_told 90 = .ok (.iconst 0, 1) := by decide +kernel
theorem dX10_told_91 : decode cX10_told 91 = .ok (.istore 5, 2) := by decide +kernel
theorem dX10_told_93 : decode cX10_told 93 = .ok (.iload 5, 2) := by decide +kernel
theorem dX10_told_95 : decode cX10_told 95 = .ok (.iconst 2, 1) := by decide +kernel
theorem dX10_told_96 : decode cX10_told 96 = .ok (.iload_n 3, 1) := by decide +kernel
theorem dX10_told_97 : decode cX10_told 97 = .ok (.imul, 1) := by decide +kernel
theorem dX10_told_98 : decode cX10_told 98 = .ok (.if_icmp .ge 33, 3) := by decide +kernel
theorem dX10_told_101 : decode cX10_told 101 = .ok (.aload_n 0, 1) := by decide +kernel
theorem dX10_told_102 : decode cX10_told 102 = .ok (.getfield 16, 3) := by decide +kernel
theorem dX10_told_105 : decode cX10_told 105 = .ok (.iload 4, 2) := by decide +kernel
theorem dX10_told_107 : decode cX10_told 107 = .ok (.iload 5, 2) := by decide +kernel
theorem dX10_told_109 : decode cX10_told 109 = .ok (.iadd, 1) := by decide +kernel
theorem dX10_told_110 : decode cX10_told 110 = .ok (.iaload, 1) := by decide +kernel
theorem dX10_told_111 : decode cX10_told 111 = .ok (.i2l, 1) := by decide +kernel
theorem dX10_told_112 : decode cX10_told 112 = .ok (.lconst 0, 1) := by decide +kernel
theorem dX10_told_113 : decode cX10_told 113 = .ok (.ldc2_w 111, 3) := by decide +kernel
theorem dX10_told_116 : decode cX10_told 116 = .ok (.invokestatic 72, 3) := by decide +kernel
theorem dX10_told_119 : decode cX10_told 119 = .ok (.ifCond .ne 6, 3) := by decide +kernel
theorem dX10_told_122 : decode cX10_told 122 = .ok (.ldc 82, 2) := by decide +kernel
theorem dX10_told_124 : decode cX10_told 124 = .ok (.ireturn, 1) := by decide +kernel
theorem dX10_told_125 : decode cX10_told 125 = .ok (.iinc 5 1, 3) := by decide +kernel
theorem dX10_told_128 : decode cX10_told 128 = .ok (.goto (-35), 3) := by decide +kernel
theorem dX10_told_131 : decode cX10_told 131 = .ok (.aload_n 0, 1) := by decide +kernel
theorem dX10_told_132 : decode cX10_told 132 = .ok (.iconst 0, 1) := by decide +kernel
theorem dX10_told_133 : decode cX10_told 133 = .ok (.putfield 66, 3) := by decide +kernel
theorem dX10_told_136 : decode cX10_told 136 = .ok (.iconst 0, 1) := by decide +kernel
theorem dX10_told_137 : decode cX10_told 137 = .ok (.istore 5, 2) := by decide +kernel
theorem dX10_told_139 : decode cX10_told 139 = .ok (.iload 5, 2) := by decide +kernel
theorem dX10_told_141 : decode cX10_told 141 = .ok (.iload_n 3, 1) := by decide +kernel
theorem dX10_told_142 : decode cX10_told 142 = .ok (.if_icmp .ge 49, 3) := by decide +kernel
theorem dX10_told_145 : decode cX10_told 145 = .ok (.aload_n 0, 1) := by decide +kernel
theorem dX10_told_146 : decode cX10_told 146 = .ok (.getfield 25, 3) := by decide +kernel
theorem dX10_told_149 : decode cX10_told 149 = .ok (.bipush 6, 2) := by decide +kernel
theorem dX10_told_151 : decode cX10_told 151 = .ok (.iaload, 1) := by decide +kernel
theorem dX10_told_152 : decode cX10_told 152 = .ok (.ifCond .ge 39, 3) := by decide +kernel
theorem dX10_told_155 : decode cX10_told 155 = .ok (.aload_n 0, 1) := by decide +kernel
theorem dX10_told_156 : decode cX10_told 156 = .ok (.aload_n 0, 1) := by decide +kernel
theorem dX10_told_157 : decode cX10_told 157 = .ok (.getfield 16, 3) := by decide +kernel
theorem dX10_told_160 : decode cX10_told 160 = .ok (.iload 4, 2) := by decide +kernel
theorem dX10_told_162 : decode cX10_told 162 = .ok (.iconst 2, 1) := by decide +kernel
theorem dX10_told_163 : decode cX10_told 163 = .ok (.iload 5, 2) := by decide +kernel
theorem dX10_told_165 : decode cX10_told 165 = .ok (.imul, 1) := by decide +kernel
theorem dX10_told_166 : decode cX10_told 166 = .ok (.iadd, 1) := by decide +kernel
theorem dX10_told_167 : decode cX10_told 167 = .ok (.iaload, 1) := by decide +kernel
theorem dX10_told_168 : decode cX10_told 168 = .ok (.aload_n 0, 1) := by decide +kernel
theorem dX10_told_169 : decode cX10_told 169 = .ok (.getfield 16, 3) := by decide +kernel
theorem dX10_told_172 : decode cX10_told 172 = .ok (.iload 4, 2) := by decide +kernel
theorem dX10_told_174 : decode cX10_told 174 = .ok (.iconst 2, 1) := by decide +kernel
theorem dX10_told_175 : decode cX10_told 175 = .ok (.iload 5, 2) := by decide +kernel
theorem dX10_told_177 : decode cX10_told 177 = .ok (.imul, 1) := by decide +kernel
theorem dX10_told_178 : decode cX10_told 178 = .ok (.iadd, 1) := by decide +kernel
theorem dX10_told_179 : decode cX10_told 179 = .ok (.iconst 1, 1) := by decide +kernel
theorem dX10_told_180 : decode cX10_told 180 = .ok (.iadd, 1) := by decide +kernel
theorem dX10_told_181 : decode cX10_told 181 = .ok (.iaload, 1) := by decide +kernel
theorem dX10_told_182 : decode cX10_told 182 = .ok (.invokevirtual 253, 3) := by decide +kernel
theorem dX10_told_185 : decode cX10_told 185 = .ok (.iinc 5 1, 3) := by decide +kernel
theorem dX10_told_188 : decode cX10_told 188 = .ok (.goto (-49), 3) := by decide +kernel
theorem dX10_told_191 : decode cX10_told 191 = .ok (.iload 5, 2) := by decide +kernel
theorem dX10_told_193 : decode cX10_told 193 = .ok (.ireturn, 1) := by decide +kernel
theorem dX10_noneBelow_0 : decode cX10_noneBelow 0 = .ok (.iload_n 0, 1) := by decide +kernel
theorem dX10_noneBelow_1 : decode cX10_noneBelow 1 = .ok (.ifCond .ge 8, 3) := by decide +kernel
theorem dX10_noneBelow_4 : decode cX10_noneBelow 4 = .ok (.ldc 98, 2) := by decide +kernel
theorem dX10_noneBelow_6 : decode cX10_noneBelow 6 = .ok (.goto 4, 3) := by decide +kernel
theorem dX10_noneBelow_9 : decode cX10_noneBelow 9 = .ok (.iload_n 0, 1) := by decide +kernel
theorem dX10_noneBelow_10 : decode cX10_noneBelow 10 = .ok (.ireturn, 1) := by decide +kernel
theorem dX10_pull_0 : decode cX10_pull 0 = .ok (.aload_n 0, 1) := by decide +kernel
theorem dX10_pull_1 : decode cX10_pull 1 = .ok (.iconst 0, 1) := by decide +kernel
theorem dX10_pull_2 : decode cX10_pull 2 = .ok (.putfield 62, 3) := by decide +kernel
theorem dX10_pull_5 : decode cX10_pull 5 = .ok (.iload_n 1, 1) := by decide +kernel
theorem dX10_pull_6 : decode cX10_pull 6 = .ok (.i2l, 1) := by decide +kernel
theorem dX10_pull_7 : decode cX10_pull 7 = .ok (.lconst 0, 1) := by decide +kernel
theorem dX10_pull_8 : decode cX10_pull 8 = .ok (.ldc2_w 264, 3) := by decide +kernel
theorem dX10_pull_11 : decode cX10_pull 11 = .ok (.invokestatic 72, 3) := by decide +kernel
theorem dX10_pull_14 : decode cX10_pull 14 = .ok (.ifCond .ne 6, 3) := by decide +kernel
theorem dX10_pull_17 : decode cX10_pull 17 = .ok (.ldc 82, 2) := by decide +kernel
theorem dX10_pull_19 : decode cX10_pull 19 = .ok (.ireturn, 1) := by decide +kernel
theorem dX10_pull_20 : decode cX10_pull 20 = .ok (.aload_n 0, 1) := by decide +kernel
theorem dX10_pull_21 : decode cX10_pull 21 = .ok (.getfield 25, 3) := by decide +kernel
theorem dX10_pull_24 : decode cX10_pull 24 = .ok (.iconst 2, 1) := by decide +kernel
theorem dX10_pull_25 : decode cX10_pull 25 = .ok (.iaload, 1) := by decide +kernel
theorem dX10_pull_26 : decode cX10_pull 26 = .ok (.ifCond .ne 6, 3) := by decide +kernel
theorem dX10_pull_29 : decode cX10_pull 29 = .ok (.ldc 230, 2) := by decide +kernel
theorem dX10_pull_31 : decode cX10_pull 31 = .ok (.ireturn, 1) := by decide +kernel
theorem dX10_pull_32 : decode cX10_pull 32 = .ok (.iload_n 1, 1) := by decide +kernel
theorem dX10_pull_33 : decode cX10_pull 33 = .ok (.tableswitch 89 0 5 #[39, 46, 53, 64, 71, 78], 39) := by decide +kernel
theorem dX10_pull_72 : decode cX10_pull 72 = .ok (.aload_n 0, 1) := by decide +kernel
theorem dX10_pull_73 : decode cX10_pull 73 = .ok (.getfield 25, 3) := by decide +kernel
theorem dX10_pull_76 : decode cX10_pull 76 = .ok (.iconst 4, 1) := by decide +kernel
theorem dX10_pull_77 : decode cX10_pull 77 = .ok (.iaload, 1) := by decide +kernel
theorem dX10_pull_78 : decode cX10_pull 78 = .ok (.ireturn, 1) := by decide +kernel
theorem dX10_pull_79 : decode cX10_pull 79 = .ok (.aload_n 0, 1) := by decide +kernel
theorem dX10_pull_80 : decode cX10_pull 80 = .ok (.getfield 25, 3) := by decide +kernel
theorem dX10_pull_83 : decode cX10_pull 83 = .ok (.iconst 5, 1) := by decide +kernel
theorem dX10_pull_84 : decode cX10_pull 84 = .ok (.iaload, 1) := by decide +kernel
theorem dX10_pull_85 : decode cX10_pull 85 = .ok (.ireturn, 1) := by decide +kernel
theorem dX10_pull_86 : decode cX10_pull 86 = .ok (.aload_n 0, 1) := by decide +kernel
theorem dX10_pull_87 : decode cX10_pull 87 = .ok (.getfield 25, 3) := by decide +kernel
theorem dX10_pull_90 : decode cX10_pull 90 = .ok (.bipush 6, 2) := by decide +kernel
theorem dX10_pull_92 : decode cX10_pull 92 = .ok (.iaload, 1) := by decide +kernel
theorem dX10_pull_93 : decode cX10_pull 93 = .ok (.invokestatic 266, 3) := by decide +kernel
theorem dX10_pull_96 : decode cX10_pull 96 = .ok (.ireturn, 1) := by decide +kernel
theorem dX10_pull_97 : decode cX10_pull 97 = .ok (.aload_n 0, 1) := by decide +kernel
theorem dX10_pull_98 : decode cX10_pull 98 = .ok (.getfield 25, 3) := by decide +kernel
theorem dX10_pull_101 : decode cX10_pull 101 = .ok (.iconst 0, 1) := by decide +kernel
theorem dX10_pull_102 : decode cX10_pull 102 = .ok (.iaload, 1) := by decide +kernel
theorem dX10_pull_103 : decode cX10_pull 103 = .ok (.ireturn, 1) := by decide +kernel
theorem dX10_pull_104 : decode cX10_pull 104 = .ok (.aload_n 0, 1) := by decide +kernel
theorem dX10_pull_105 : decode cX10_pull 105 = .ok (.getfield 25, 3) := by decide +kernel
theorem dX10_pull_108 : decode cX10_pull 108 = .ok (.iconst 1, 1) := by decide +kernel
theorem dX10_pull_109 : decode cX10_pull 109 = .ok (.iaload, 1) := by decide +kernel
theorem dX10_pull_110 : decode cX10_pull 110 = .ok (.ireturn, 1) := by decide +kernel
theorem dX10_pull_111 : decode cX10_pull 111 = .ok (.aload_n 0, 1) := by decide +kernel
theorem dX10_pull_112 : decode cX10_pull 112 = .ok (.getfield 25, 3) := by decide +kernel
theorem dX10_pull_115 : decode cX10_pull 115 = .ok (.bipush 7, 2) := by decide +kernel
theorem dX10_pull_117 : decode cX10_pull 117 = .ok (.iaload, 1) := by decide +kernel
theorem dX10_pull_118 : decode cX10_pull 118 = .ok (.invokestatic 266, 3) := by decide +kernel
theorem dX10_pull_121 : decode cX10_pull 121 = .ok (.ireturn, 1) := by decide +kernel
theorem dX10_pull_122 : decode cX10_pull 122 = .ok (.aload_n 0, 1) := by decide +kernel
theorem dX10_pull_123 : decode cX10_pull 123 = .ok (.getfield 25, 3) := by decide +kernel
theorem dX10_pull_126 : decode cX10_pull 126 = .ok (.bipush 7, 2) := by decide +kernel
theorem dX10_pull_128 : decode cX10_pull 128 = .ok (.iaload, 1) := by decide +kernel
theorem dX10_pull_129 : decode cX10_pull 129 = .ok (.ifCond .ge 8, 3) := by decide +kernel
theorem dX10_pull_132 : decode cX10_pull 132 = .ok (.ldc 98, 2) := by decide +kernel
theorem dX10_pull_134 : decode cX10_pull 134 = .ok (.goto 10, 3) := by decide +kernel
theorem dX10_pull_137 : decode cX10_pull 137 = .ok (.aload_n 0, 1) := by decide +kernel
theorem dX10_pull_138 : decode cX10_pull 138 = .ok (.getfield 25, 3) := by decide +kernel
theorem dX10_pull_141 : decode cX10_pull 141 = .ok (.bipush 8, 2) := by decide +kernel
theorem dX10_pull_143 : decode cX10_pull 143 = .ok (.iaload, 1) := by decide +kernel
theorem dX10_pull_144 : decode cX10_pull 144 = .ok (.ireturn, 1) := by decide +kernel
theorem dX10_doing_0 : decode cX10_doing 0 = .ok (.aload_n 0, 1) := by decide +kernel
theorem dX10_doing_1 : decode cX10_doing 1 = .ok (.iconst 0, 1) := by decide +kernel
theorem dX10_doing_2 : decode cX10_doing 2 = .ok (.putfield 62, 3) := by decide +kernel
theorem dX10_doing_5 : decode cX10_doing 5 = .ok (.aload_n 0, 1) := by decide +kernel
theorem dX10_doing_6 : decode cX10_doing 6 = .ok (.iload_n 1, 1) := by decide +kernel
theorem dX10_doing_7 : decode cX10_doing 7 = .ok (.iload_n 2, 1) := by decide +kernel
theorem dX10_doing_8 : decode cX10_doing 8 = .ok (.invokevirtual 220, 3) := by decide +kernel
theorem dX10_doing_11 : decode cX10_doing 11 = .ok (.ifCond .eq 15, 3) := by decide +kernel
theorem dX10_doing_14 : decode cX10_doing 14 = .ok (.iload_n 3, 1) := by decide +kernel
theorem dX10_doing_15 : decode cX10_doing 15 = .ok (.i2l, 1) := by decide +kernel
theorem dX10_doing_16 : decode cX10_doing 16 = .ok (.lconst 0, 1) := by decide +kernel
theorem dX10_doing_17 : decode cX10_doing 17 = .ok (.ldc2_w 80, 3) := by decide +kernel
theorem dX10_doing_20 : decode cX10_doing 20 = .ok (.invokestatic 72, 3) := by decide +kernel
theorem dX10_doing_23 : decode cX10_doing 23 = .ok (.ifCond .ne 6, 3) := by decide +kernel
theorem dX10_doing_26 : decode cX10_doing 26 = .ok (.ldc 82, 2) := by decide +kernel
theorem dX10_doing_28 : decode cX10_doing 28 = .ok (.ireturn, 1) := by decide +kernel
theorem dX10_doing_29 : decode cX10_doing 29 = .ok (.aload_n 0, 1) := by decide +kernel
theorem dX10_doing_30 : decode cX10_doing 30 = .ok (.getfield 25, 3) := by decide +kernel
theorem dX10_doing_33 : decode cX10_doing 33 = .ok (.iconst 2, 1) := by decide +kernel
theorem dX10_doing_34 : decode cX10_doing 34 = .ok (.iaload, 1) := by decide +kernel
theorem dX10_doing_35 : decode cX10_doing 35 = .ok (.ifCond .ne 6, 3) := by decide +kernel
theorem dX10_doing_38 : decode cX10_doing 38 = .ok (.ldc 230, 2) := by decide +kernel
theorem dX10_doing_40 : decode cX10_doing 40 = .ok (.ireturn, 1) := by decide +kernel
theorem dX10_doing_41 : decode cX10_doing 41 = .ok (.aload_n 0, 1) := by decide +kernel
theorem dX10_doing_42 : decode cX10_doing 42 = .ok (.getfield 25, 3) := by decide +kernel
theorem dX10_doing_45 : decode cX10_doing 45 = .ok (.iload_n 3, 1) := by decide +kernel
theorem dX10_doing_46 : decode cX10_doing 46 = .ok (.ifCond .ne 8, 3) := by decide +kernel
theorem dX10_doing_49 : decode cX10_doing 49 = .ok (.bipush 10, 2) := by decide +kernel
theorem dX10_doing_51 : decode cX10_doing 51 = .ok (.goto 15, 3) := by decide +kernel
theorem dX10_doing_54 : decode cX10_doing 54 = .ok (.iload_n 3, 1) := by decide +kernel
theorem dX10_doing_55 : decode cX10_doing 55 = .ok (.iconst 1, 1) := by decide +kernel
theorem dX10_doing_56 : decode cX10_doing 56 = .ok (.if_icmp .ne 8, 3) := by decide +kernel
theorem dX10_doing_59 : decode cX10_doing 59 = .ok (.bipush 26, 2) := by decide +kernel
theorem dX10_doing_61 : decode cX10_doing 61 = .ok (.goto 5, 3) := by decide +kernel
theorem dX10_doing_64 : decode cX10_doing 64 = .ok (.bipush 42, 2) := by decide +kernel
theorem dX10_doing_66 : decode cX10_doing 66 = .ok (.bipush 8, 2) := by decide +kernel
theorem dX10_doing_68 : decode cX10_doing 68 = .ok (.iload_n 1, 1) := by decide +kernel
theorem dX10_doing_69 : decode cX10_doing 69 = .ok (.imul, 1) := by decide +kernel
theorem dX10_doing_70 : decode cX10_doing 70 = .ok (.iadd, 1) := by decide +kernel
theorem dX10_doing_71 : decode cX10_doing 71 = .ok (.iload_n 2, 1) := by decide +kernel
theorem dX10_doing_72 : decode cX10_doing 72 = .ok (.iadd, 1) := by decide +kernel
theorem dX10_doing_73 : decode cX10_doing 73 = .ok (.iaload, 1) := by decide +kernel
theorem dX10_doing_74 : decode cX10_doing 74 = .ok (.ireturn, 1) := by decide +kernel
theorem dX10_later_0 : decode cX10_later 0 = .ok (.aload_n 0, 1) := by decide +kernel
theorem dX10_later_1 : decode cX10_later 1 = .ok (.iconst 0, 1) := by decide +kernel
theorem dX10_later_2 : decode cX10_later 2 = .ok (.putfield 62, 3) := by decide +kernel
theorem dX10_later_5 : decode cX10_later 5 = .ok (.iload_n 1, 1) := by decide +kernel
theorem dX10_later_6 : decode cX10_later 6 = .ok (.ifCond .lt 15, 3) := by decide +kernel
theorem dX10_later_9 : decode cX10_later 9 = .ok (.iload_n 2, 1) := by decide +kernel
theorem dX10_later_10 : decode cX10_later 10 = .ok (.i2l, 1) := by decide +kernel
theorem dX10_later_11 : decode cX10_later 11 = .ok (.lconst 0, 1) := by decide +kernel
theorem dX10_later_12 : decode cX10_later 12 = .ok (.ldc2_w 224, 3) := by decide +kernel
theorem dX10_later_15 : decode cX10_later 15 = .ok (.invokestatic 72, 3) := by decide +kernel
theorem dX10_later_18 : decode cX10_later 18 = .ok (.ifCond .ne 6, 3) := by decide +kernel
theorem dX10_later_21 : decode cX10_later 21 = .ok (.ldc 82, 2) := by decide +kernel
theorem dX10_later_23 : decode cX10_later 23 = .ok (.ireturn, 1) := by decide +kernel
theorem dX10_later_24 : decode cX10_later 24 = .ok (.aload_n 0, 1) := by decide +kernel
theorem dX10_later_25 : decode cX10_later 25 = .ok (.getfield 25, 3) := by decide +kernel
theorem dX10_later_28 : decode cX10_later 28 = .ok (.iconst 2, 1) := by decide +kernel
theorem dX10_later_29 : decode cX10_later 29 = .ok (.iaload, 1) := by decide +kernel
theorem dX10_later_30 : decode cX10_later 30 = .ok (.ifCond .ne 6, 3) := by decide +kernel
theorem dX10_later_33 : decode cX10_later 33 = .ok (.ldc 230, 2) := by decide +kernel
theorem dX10_later_35 : decode cX10_later 35 = .ok (.ireturn, 1) := by decide +kernel
theorem dX10_later_36 : decode cX10_later 36 = .ok (.iload_n 1, 1) := by decide +kernel
theorem dX10_later_37 : decode cX10_later 37 = .ok (.aload_n 0, 1) := by decide +kernel
theorem dX10_later_38 : decode cX10_later 38 = .ok (.getfield 25, 3) := by decide +kernel
theorem dX10_later_41 : decode cX10_later 41 = .ok (.bipush 9, 2) := by decide +kernel
theorem dX10_later_43 : decode cX10_later 43 = .ok (.iaload, 1) := by decide +kernel
theorem dX10_later_44 : decode cX10_later 44 = .ok (.if_icmp .ge 19, 3) := by decide +kernel
theorem dX10_later_47 : decode cX10_later 47 = .ok (.aload_n 0, 1) := by decide +kernel
theorem dX10_later_48 : decode cX10_later 48 = .ok (.getfield 25, 3) := by decide +kernel
theorem dX10_later_51 : decode cX10_later 51 = .ok (.bipush 70, 2) := by decide +kernel
theorem dX10_later_53 : decode cX10_later 53 = .ok (.iconst 5, 1) := by decide +kernel
theorem dX10_later_54 : decode cX10_later 54 = .ok (.iload_n 1, 1) := by decide +kernel
theorem dX10_later_55 : decode cX10_later 55 = .ok (.imul, 1) := by decide +kernel
theorem dX10_later_56 : decode cX10_later 56 = .ok (.iadd, 1) := by decide +kernel
theorem dX10_later_57 : decode cX10_later 57 = .ok (.iload_n 2, 1) := by decide +kernel
theorem dX10_later_58 : decode cX10_later 58 = .ok (.iadd, 1) := by decide +kernel
theorem dX10_later_59 : decode cX10_later 59 = .ok (.iaload, 1) := by decide +kernel
theorem dX10_later_60 : decode cX10_later 60 = .ok (.goto 5, 3) := by decide +kernel
theorem dX10_later_63 : decode cX10_later 63 = .ok (.ldc 98, 2) := by decide +kernel
theorem dX10_later_65 : decode cX10_later 65 = .ok (.ireturn, 1) := by decide +kernel
theorem dX10_three_0 : decode cX10_three 0 = .ok (.aload_n 0, 1) := by decide +kernel
theorem dX10_three_1 : decode cX10_three 1 = .ok (.iconst 0, 1) := by decide +kernel
theorem dX10_three_2 : decode cX10_three 2 = .ok (.putfield 62, 3) := by decide +kernel
theorem dX10_three_5 : decode cX10_three 5 = .ok (.iload_n 1, 1) := by decide +kernel
theorem dX10_three_6 : decode cX10_three 6 = .ok (.i2l, 1) := by decide +kernel
theorem dX10_three_7 : decode cX10_three 7 = .ok (.lconst 1, 1) := by decide +kernel
theorem dX10_three_8 : decode cX10_three 8 = .ok (.ldc2_w 269, 3) := by decide +kernel
theorem dX10_three_11 : decode cX10_three 11 = .ok (.invokestatic 72, 3) := by decide +kernel
theorem dX10_three_14 : decode cX10_three 14 = .ok (.ifCond .eq 15, 3) := by decide +kernel
theorem dX10_three_17 : decode cX10_three 17 = .ok (.iload_n 2, 1) := by decide +kernel
theorem dX10_three_18 : decode cX10_three 18 = .ok (.i2l, 1) := by decide +kernel
theorem dX10_three_19 : decode cX10_three 19 = .ok (.lconst 0, 1) := by decide +kernel
theorem dX10_three_20 : decode cX10_three 20 = .ok (.ldc2_w 111, 3) := by decide +kernel
theorem dX10_three_23 : decode cX10_three 23 = .ok (.invokestatic 72, 3) := by decide +kernel
theorem dX10_three_26 : decode cX10_three 26 = .ok (.ifCond .ne 6, 3) := by decide +kernel
theorem dX10_three_29 : decode cX10_three 29 = .ok (.ldc 82, 2) := by decide +kernel
theorem dX10_three_31 : decode cX10_three 31 = .ok (.ireturn, 1) := by decide +kernel
theorem dX10_three_32 : decode cX10_three 32 = .ok (.aload_n 0, 1) := by decide +kernel
theorem dX10_three_33 : decode cX10_three 33 = .ok (.getfield 213, 3) := by decide +kernel
theorem dX10_three_36 : decode cX10_three 36 = .ok (.ifCond .ne 6, 3) := by decide +kernel
theorem dX10_three_39 : decode cX10_three 39 = .ok (.ldc 230, 2) := by decide +kernel
theorem dX10_three_41 : decode cX10_three 41 = .ok (.ireturn, 1) := by decide +kernel
theorem dX10_three_42 : decode cX10_three 42 = .ok (.iconst 0, 1) := by decide +kernel
theorem dX10_three_43 : decode cX10_three 43 = .ok (.istore_n 3, 1) := by decide +kernel
theorem dX10_three_44 : decode cX10_three 44 = .ok (.iload_n 3, 1) := by decide +kernel
theorem dX10_three_45 : decode cX10_three 45 = .ok (.sipush 370, 3) := by decide +kernel
theorem dX10_three_48 : decode cX10_three 48 = .ok (.if_icmp .ge 21, 3) := by decide +kernel
theorem dX10_three_51 : decode cX10_three 51 = .ok (.aload_n 0, 1) := by decide +kernel
theorem dX10_three_52 : decode cX10_three 52 = .ok (.getfield 34, 3) := by decide +kernel
theorem dX10_three_55 : decode cX10_three 55 = .ok (.iload_n 3, 1) := by decide +kernel
theorem dX10_three_56 : decode cX10_three 56 = .ok (.aload_n 0, 1) := by decide +kernel
theorem dX10_three_57 : decode cX10_three 57 = .ok (.getfield 25, 3) := by decide +kernel
theorem dX10_three_60 : decode cX10_three 60 = .ok (.iload_n 3, 1) := by decide +kernel
theorem dX10_three_61 : decode cX10_three 61 = .ok (.iaload, 1) := by decide +kernel
theorem dX10_three_62 : decode cX10_three 62 = .ok (.iastore, 1) := by decide +kernel
theorem dX10_three_63 : decode cX10_three 63 = .ok (.iinc 3 1, 3) := by decide +kernel
theorem dX10_three_66 : decode cX10_three 66 = .ok (.goto (-22), 3) := by decide +kernel
theorem dX10_three_69 : decode cX10_three 69 = .ok (.aload_n 0, 1) := by decide +kernel
theorem dX10_three_70 : decode cX10_three 70 = .ok (.getfield 25, 3) := by decide +kernel
theorem dX10_three_73 : decode cX10_three 73 = .ok (.iconst 0, 1) := by decide +kernel
theorem dX10_three_74 : decode cX10_three 74 = .ok (.aload_n 0, 1) := by decide +kernel
theorem dX10_three_75 : decode cX10_three 75 = .ok (.getfield 19, 3) := by decide +kernel
theorem dX10_three_78 : decode cX10_three 78 = .ok (.iconst 5, 1) := by decide +kernel
theorem dX10_three_79 : decode cX10_three 79 = .ok (.iaload, 1) := by decide +kernel
theorem dX10_three_80 : decode cX10_three 80 = .ok (.iastore, 1) := by decide +kernel
theorem dX10_three_81 : decode cX10_three 81 = .ok (.aload_n 0, 1) := by decide +kernel
theorem dX10_three_82 : decode cX10_three 82 = .ok (.getfield 25, 3) := by decide +kernel
theorem dX10_three_85 : decode cX10_three 85 = .ok (.iconst 1, 1) := by decide +kernel
theorem dX10_three_86 : decode cX10_three 86 = .ok (.aload_n 0, 1) := by decide +kernel
theorem dX10_three_87 : decode cX10_three 87 = .ok (.getfield 19, 3) := by decide +kernel
theorem dX10_three_90 : decode cX10_three 90 = .ok (.iconst 5, 1) := by decide +kernel
theorem dX10_three_91 : decode cX10_three 91 = .ok (.iaload, 1) := by decide +kernel
theorem dX10_three_92 : decode cX10_three 92 = .ok (.iastore, 1) := by decide +kernel
theorem dX10_three_93 : decode cX10_three 93 = .ok (.iconst 0, 1) := by decide +kernel
theorem dX10_three_94 : decode cX10_three 94 = .ok (.istore_n 3, 1) := by decide +kernel
theorem dX10_three_95 : decode cX10_three 95 = .ok (.iconst 0, 1) := by decide +kernel
theorem dX10_three_96 : decode cX10_three 96 = .ok (.istore 4, 2) := by decide +kernel
theorem dX10_three_98 : decode cX10_three 98 = .ok (.iload 4, 2) := by decide +kernel
theorem dX10_three_100 : decode cX10_three 100 = .ok (.iconst 3, 1) := by decide +kernel
theorem dX10_three_101 : decode cX10_three 101 = .ok (.if_icmp .ge 91, 3) := by decide +kernel
theorem dX10_three_104 : decode cX10_three 104 = .ok (.aload_n 0, 1) := by decide +kernel
theorem dX10_three_105 : decode cX10_three 105 = .ok (.iload 4, 2) := by decide +kernel
theorem dX10_three_107 : decode cX10_three 107 = .ok (.iconst 2, 1) := by decide +kernel
theorem dX10_three_108 : decode cX10_three 108 = .ok (.irem, 1) := by decide +kernel
theorem dX10_three_109 : decode cX10_three 109 = .ok (.invokevirtual 231, 3) := by decide +kernel
theorem dX10_three_112 : decode cX10_three 112 = .ok (.aload_n 0, 1) := by decide +kernel
theorem dX10_three_113 : decode cX10_three 113 = .ok (.iload_n 1, 1) := by decide +kernel
theorem dX10_three_114 : decode cX10_three 114 = .ok (.invokevirtual 259, 3) := by decide +kernel
theorem dX10_three_117 : decode cX10_three 117 = .ok (.pop, 1) := by decide +kernel
theorem dX10_three_118 : decode cX10_three 118 = .ok (.aload_n 0, 1) := by decide +kernel
theorem dX10_three_119 : decode cX10_three 119 = .ok (.getfield 37, 3) := by decide +kernel
theorem dX10_three_122 : decode cX10_three 122 = .ok (.iload 4, 2) := by decide +kernel
theorem dX10_three_124 : decode cX10_three 124 = .ok (.aload_n 0, 1) := by decide +kernel
theorem dX10_three_125 : decode cX10_three 125 = .ok (.getfield 25, 3) := by decide +kernel
theorem dX10_three_128 : decode cX10_three 128 = .ok (.iconst 4, 1) := by decide +kernel
theorem dX10_three_129 : decode cX10_three 129 = .ok (.iaload, 1) := by decide +kernel
theorem dX10_three_130 : decode cX10_three 130 = .ok (.ifCond .le 7, 3) := by decide +kernel
theorem dX10_three_133 : decode cX10_three 133 = .ok (.iconst 0, 1) := by decide +kernel
theorem dX10_three_134 : decode cX10_three 134 = .ok (.goto 18, 3) := by decide +kernel
theorem dX10_three_137 : decode cX10_three 137 = .ok (.aload_n 0, 1) := by decide +kernel
theorem dX10_three_138 : decode cX10_three 138 = .ok (.getfield 25, 3) := by decide +kernel
theorem dX10_three_141 : decode cX10_three 141 = .ok (.iconst 4, 1) := by decide +kernel
theorem dX10_three_142 : decode cX10_three 142 = .ok (.iaload, 1) := by decide +kernel
theorem dX10_three_143 : decode cX10_three 143 = .ok (.ifCond .ge 7, 3) := by decide +kernel
theorem dX10_three_146 : decode cX10_three 146 = .ok (.iconst 1, 1) := by decide +kernel
theorem dX10_three_147 : decode cX10_three 147 = .ok (.goto 5, 3) := by decide +kernel
theorem dX10_three_150 : decode cX10_three 150 = .ok (.ldc 98, 2) := by decide +kernel
theorem dX10_three_152 : decode cX10_three 152 = .ok (.iastore, 1) := by decide +kernel
theorem dX10_three_153 : decode cX10_three 153 = .ok (.iload_n 3, 1) := by decide +kernel
theorem dX10_three_154 : decode cX10_three 154 = .ok (.aload_n 0, 1) := by decide +kernel
theorem dX10_three_155 : decode cX10_three 155 = .ok (.getfield 37, 3) := by decide +kernel
theorem dX10_three_158 : decode cX10_three 158 = .ok (.iload 4, 2) := by decide +kernel
theorem dX10_three_160 : decode cX10_three 160 = .ok (.iaload, 1) := by decide +kernel
theorem dX10_three_161 : decode cX10_three 161 = .ok (.ifCond .ne 7, 3) := by decide +kernel
theorem dX10_three_164 : decode cX10_three 164 = .ok (.iconst 1, 1) := by decide +kernel
theorem dX10_three_165 : decode cX10_three 165 = .ok (.goto 19, 3) := by decide +kernel
theorem dX10_three_168 : decode cX10_three 168 = .ok (.aload_n 0, 1) := by decide +kernel
theorem dX10_three_169 : decode cX10_three 169 = .ok (.getfield 37, 3) := by decide +kernel
theorem dX10_three_172 : decode cX10_three 172 = .ok (.iload 4, 2) := by decide +kernel
theorem dX10_three_174 : decode cX10_three 174 = .ok (.iaload, 1) := by decide +kernel
theorem dX10_three_175 : decode cX10_three 175 = .ok (.iconst 1, 1) := by decide +kernel
theorem dX10_three_176 : decode cX10_three 176 = .ok (.if_icmp .ne 7, 3) := by decide +kernel
theorem dX10_three_179 : decode cX10_three 179 = .ok (.iconst (-1), 1) := by decide +kernel
theorem dX10_three_180 : decode cX10_three 180 = .ok (.goto 4, 3) := by decide +kernel
theorem dX10_three_183 : decode cX10_three 183 = .ok (.iconst 0, 1) := by decide +kernel
theorem dX10_three_184 : decode cX10_three 184 = .ok (.iadd, 1) := by decide +kernel
theorem dX10_three_185 : decode cX10_three 185 = .ok (.istore_n 3, 1) := by decide +kernel
theorem dX10_three_186 : decode cX10_three 186 = .ok (.iinc 4 1, 3) := by decide +kernel
theorem dX10_three_189 : decode cX10_three 189 = .ok (.goto (-91), 3) := by decide +kernel
theorem dX10_three_192 : decode cX10_three 192 = .ok (.aload_n 0, 1) := by decide +kernel
theorem dX10_three_193 : decode cX10_three 193 = .ok (.getfield 37, 3) := by decide +kernel
theorem dX10_three_196 : decode cX10_three 196 = .ok (.iconst 3, 1) := by decide +kernel
theorem dX10_three_197 : decode cX10_three 197 = .ok (.iload_n 3, 1) := by decide +kernel
theorem dX10_three_198 : decode cX10_three 198 = .ok (.ifCond .le 7, 3) := by decide +kernel
theorem dX10_three_201 : decode cX10_three 201 = .ok (.iconst 0, 1) := by decide +kernel
theorem dX10_three_202 : decode cX10_three 202 = .ok (.goto 13, 3) := by decide +kernel
theorem dX10_three_205 : decode cX10_three 205 = .ok (.iload_n 3, 1) := by decide +kernel
theorem dX10_three_206 : decode cX10_three 206 = .ok (.ifCond .ge 7, 3) := by decide +kernel
theorem dX10_three_209 : decode cX10_three 209 = .ok (.iconst 1, 1) := by decide +kernel
theorem dX10_three_210 : decode cX10_three 210 = .ok (.goto 5, 3) := by decide +kernel
theorem dX10_three_213 : decode cX10_three 213 = .ok (.ldc 98, 2) := by decide +kernel
theorem dX10_three_215 : decode cX10_three 215 = .ok (.iastore, 1) := by decide +kernel
theorem dX10_three_216 : decode cX10_three 216 = .ok (.iconst 0, 1) := by decide +kernel
theorem dX10_three_217 : decode cX10_three 217 = .ok (.istore 4, 2) := by decide +kernel
theorem dX10_three_219 : decode cX10_three 219 = .ok (.iload 4, 2) := by decide +kernel
theorem dX10_three_221 : decode cX10_three 221 = .ok (.sipush 370, 3) := by decide +kernel
theorem dX10_three_224 : decode cX10_three 224 = .ok (.if_icmp .ge 23, 3) := by decide +kernel
theorem dX10_three_227 : decode cX10_three 227 = .ok (.aload_n 0, 1) := by decide +kernel
theorem dX10_three_228 : decode cX10_three 228 = .ok (.getfield 25, 3) := by decide +kernel
theorem dX10_three_231 : decode cX10_three 231 = .ok (.iload 4, 2) := by decide +kernel
theorem dX10_three_233 : decode cX10_three 233 = .ok (.aload_n 0, 1) := by decide +kernel
theorem dX10_three_234 : decode cX10_three 234 = .ok (.getfield 34, 3) := by decide +kernel
theorem dX10_three_237 : decode cX10_three 237 = .ok (.iload 4, 2) := by decide +kernel
theorem dX10_three_239 : decode cX10_three 239 = .ok (.iaload, 1) := by decide +kernel
theorem dX10_three_240 : decode cX10_three 240 = .ok (.iastore, 1) := by decide +kernel
theorem dX10_three_241 : decode cX10_three 241 = .ok (.iinc 4 1, 3) := by decide +kernel
theorem dX10_three_244 : decode cX10_three 244 = .ok (.goto (-25), 3) := by decide +kernel
theorem dX10_three_247 : decode cX10_three 247 = .ok (.aload_n 0, 1) := by decide +kernel
theorem dX10_three_248 : decode cX10_three 248 = .ok (.getfield 37, 3) := by decide +kernel
theorem dX10_three_251 : decode cX10_three 251 = .ok (.iload_n 2, 1) := by decide +kernel
theorem dX10_three_252 : decode cX10_three 252 = .ok (.iaload, 1) := by decide +kernel
theorem dX10_three_253 : decode cX10_three 253 = .ok (.ireturn, 1) := by decide +kernel
theorem dX10_together_0 : decode cX10_together 0 = .ok (.aload_n 0, 1) := by decide +kernel
theorem dX10_together_1 : decode cX10_together 1 = .ok (.iconst 0, 1) := by decide +kernel
theorem dX10_together_2 : decode cX10_together 2 = .ok (.putfield 62, 3) := by decide +kernel
theorem dX10_together_5 : decode cX10_together 5 = .ok (.iload_n 1, 1) := by decide +kernel
theorem dX10_together_6 : decode cX10_together 6 = .ok (.invokestatic 217, 3) := by decide +kernel
theorem dX10_together_9 : decode cX10_together 9 = .ok (.ifCond .eq 36, 3) := by decide +kernel
theorem dX10_together_12 : decode cX10_together 12 = .ok (.aload_n 0, 1) := by decide +kernel
theorem dX10_together_13 : decode cX10_together 13 = .ok (.getfield 19, 3) := by decide +kernel
theorem dX10_together_16 : decode cX10_together 16 = .ok (.iconst 0, 1) := by decide +kernel
theorem dX10_together_17 : decode cX10_together 17 = .ok (.iload_n 1, 1) := by decide +kernel
theorem dX10_together_18 : decode cX10_together 18 = .ok (.iadd, 1) := by decide +kernel
theorem dX10_together_19 : decode cX10_together 19 = .ok (.iaload, 1) := by decide +kernel
theorem dX10_together_20 : decode cX10_together 20 = .ok (.ifCond .eq 25, 3) := by decide +kernel
theorem dX10_together_23 : decode cX10_together 23 = .ok (.iload_n 2, 1) := by decide +kernel
theorem dX10_together_24 : decode cX10_together 24 = .ok (.i2l, 1) := by decide +kernel
theorem dX10_together_25 : decode cX10_together 25 = .ok (.lconst 0, 1) := by decide +kernel
theorem dX10_together_26 : decode cX10_together 26 = .ok (.ldc2_w 271, 3) := by decide +kernel
theorem dX10_together_29 : decode cX10_together 29 = .ok (.invokestatic 72, 3) := by decide +kernel
theorem dX10_together_32 : decode cX10_together 32 = .ok (.ifCond .eq 13, 3) := by decide +kernel
theorem dX10_together_35 : decode cX10_together 35 = .ok (.iload_n 3, 1) := by decide +kernel
theorem dX10_together_36 : decode cX10_together 36 = .ok (.i2l, 1) := by decide +kernel
theorem dX10_together_37 : decode cX10_together 37 = .ok (.lconst 0, 1) := by decide +kernel
theorem dX10_together_38 : decode cX10_together 38 = .ok (.lconst 1, 1) := by decide +kernel
theorem dX10_together_39 : decode cX10_together 39 = .ok (.invokestatic 72, 3) := by decide +kernel
theorem dX10_together_42 : decode cX10_together 42 = .ok (.ifCond .ne 6, 3) := by decide +kernel
theorem dX10_together_45 : decode cX10_together 45 = .ok (.ldc 82, 2) := by decide +kernel
theorem dX10_together_47 : decode cX10_together 47 = .ok (.ireturn, 1) := by decide +kernel
theorem dX10_together_48 : decode cX10_together 48 = .ok (.iconst 0, 1) := by decide +kernel
theorem dX10_together_49 : decode cX10_together 49 = .ok (.istore 4, 2) := by decide +kernel
theorem dX10_together_51 : decode cX10_together 51 = .ok (.iconst (-1), 1) := by decide +kernel
theorem dX10_together_52 : decode cX10_together 52 = .ok (.istore 5, 2) := by decide +kernel
theorem dX10_together_54 : decode cX10_together 54 = .ok (.iconst 0, 1) := by decide +kernel
theorem dX10_together_55 : decode cX10_together 55 = .ok (.istore 6, 2) := by decide +kernel
theorem dX10_together_57 : decode cX10_together 57 = .ok (.iload 6, 2) := by decide +kernel
theorem dX10_together_59 : decode cX10_together 59 = .ok (.bipush 6, 2) := by decide +kernel
theorem dX10_together_61 : decode cX10_together 61 = .ok (.if_icmp .ge 132, 3) := by decide +kernel
theorem dX10_together_64 : decode cX10_together 64 = .ok (.iconst 0, 1) := by decide +kernel
theorem dX10_together_65 : decode cX10_together 65 = .ok (.istore 7, 2) := by decide +kernel
theorem dX10_together_67 : decode cX10_together 67 = .ok (.iconst 0, 1) := by decide +kernel
theorem dX10_together_68 : decode cX10_together 68 = .ok (.istore 8, 2) := by decide +kernel
theorem dX10_together_70 : decode cX10_together 70 = .ok (.iload 8, 2) := by decide +kernel
theorem dX10_together_72 : decode cX10_together 72 = .ok (.aload_n 0, 1) := by decide +kernel
theorem dX10_together_73 : decode cX10_together 73 = .ok (.getfield 19, 3) := by decide +kernel
theorem dX10_together_76 : decode cX10_together 76 = .ok (.iconst 0, 1) := by decide +kernel
theorem dX10_together_77 : decode cX10_together 77 = .ok (.iload_n 1, 1) := by decide +kernel
theorem dX10_together_78 : decode cX10_together 78 = .ok (.iadd, 1) := by decide +kernel
theorem dX10_together_79 : decode cX10_together 79 = .ok (.iaload, 1) := by decide +kernel
theorem dX10_together_80 : decode cX10_together 80 = .ok (.if_icmp .ge 75, 3) := by decide +kernel
theorem dX10_together_83 : decode cX10_together 83 = .ok (.aload_n 0, 1) := by decide +kernel
theorem dX10_together_84 : decode cX10_together 84 = .ok (.iload_n 1, 1) := by decide +kernel
theorem dX10_together_85 : decode cX10_together 85 = .ok (.iload 8, 2) := by decide +kernel
theorem dX10_together_87 : decode cX10_together 87 = .ok (.iconst 4, 1) := by decide +kernel
theorem dX10_together_88 : decode cX10_together 88 = .ok (.invokevirtual 226, 3) := by decide +kernel
theorem dX10_together_91 : decode cX10_together 91 = .ok (.istore 9, 2) := by decide +kernel
theorem dX10_together_93 : decode cX10_together 93 = .ok (.iconst 0, 1) := by decide +kernel
theorem dX10_together_94 : decode cX10_together 94 = .ok (.istore 10, 2) := by decide +kernel
theorem dX10_together_96 : decode cX10_together 96 = .ok (.iload 10, 2) := by decide +kernel
theorem dX10_together_98 : decode cX10_together 98 = .ok (.iload_n 2, 1) := by decide +kernel
theorem dX10_together_99 : decode cX10_together 99 = .ok (.if_icmp .ge 19, 3) := by decide +kernel
theorem dX10_together_102 : decode cX10_together 102 = .ok (.iload 9, 2) := by decide +kernel
theorem dX10_together_104 : decode cX10_together 104 = .ok (.bipush 9, 2) := by decide +kernel
theorem dX10_together_106 : decode cX10_together 106 = .ok (.imul, 1) := by decide +kernel
theorem dX10_together_107 : decode cX10_together 107 = .ok (.bipush 10, 2) := by decide +kernel
theorem dX10_together_109 : decode cX10_together 109 = .ok (.idiv, 1) := by decide +kernel
theorem dX10_together_110 : decode cX10_together 110 = .ok (.istore 9, 2) := by decide +kernel
theorem dX10_together_112 : decode cX10_together 112 = .ok (.iinc 10 1, 3) := by decide +kernel
theorem dX10_together_115 : decode cX10_together 115 = .ok (.goto (-19), 3) := by decide +kernel
theorem dX10_together_118 : decode cX10_together 118 = .ok (.iload 7, 2) := by decide +kernel
theorem dX10_together_120 : decode cX10_together 120 = .ok (.iload 9, 2) := by decide +kernel
theorem dX10_together_122 : decode cX10_together 122 = .ok (.iload 6, 2) := by decide +kernel
theorem dX10_together_124 : decode cX10_together 124 = .ok (.if_icmp .ne 14, 3) := by decide +kernel
theorem dX10_together_127 : decode cX10_together 127 = .ok (.aload_n 0, 1) := by decide +kernel
theorem dX10_together_128 : decode cX10_together 128 = .ok (.iload_n 1, 1) := by decide +kernel
theorem dX10_together_129 : decode cX10_together 129 = .ok (.iload 8, 2) := by decide +kernel
theorem dX10_together_131 : decode cX10_together 131 = .ok (.iconst 2, 1) := by decide +kernel
theorem dX10_together_132 : decode cX10_together 132 = .ok (.invokevirtual 226, 3) := by decide +kernel
theorem dX10_together_135 : decode cX10_together 135 = .ok (.goto 11, 3) := by decide +kernel
theorem dX10_together_138 : decode cX10_together 138 = .ok (.aload_n 0, 1) := by decide +kernel
theorem dX10_together_139 : decode cX10_together 139 = .ok (.iload_n 1, 1) := by decide +kernel
theorem dX10_together_140 : decode cX10_together 140 = .ok (.iload 8, 2) := by decide +kernel
theorem dX10_together_142 : decode cX10_together 142 = .ok (.iconst 1, 1) := by decide +kernel
theorem dX10_together_143 : decode cX10_together 143 = .ok (.invokevirtual 226, 3) := by decide +kernel
theorem dX10_together_146 : decode cX10_together 146 = .ok (.iadd, 1) := by decide +kernel
theorem dX10_together_147 : decode cX10_together 147 = .ok (.istore 7, 2) := by decide +kernel
theorem dX10_together_149 : decode cX10_together 149 = .ok (.iinc 8 1, 3) := by decide +kernel
theorem dX10_together_152 : decode cX10_together 152 = .ok (.goto (-82), 3) := by decide +kernel
theorem dX10_together_155 : decode cX10_together 155 = .ok (.iload 7, 2) := by decide +kernel
theorem dX10_together_157 : decode cX10_together 157 = .ok (.iload 5, 2) := by decide +kernel
theorem dX10_together_159 : decode cX10_together 159 = .ok (.if_icmp .le 8, 3) := by decide +kernel
theorem dX10_together_162 : decode cX10_together 162 = .ok (.iload 6, 2) := by decide +kernel
theorem dX10_together_164 : decode cX10_together 164 = .ok (.goto 5, 3) := by decide +kernel
theorem dX10_together_167 : decode cX10_together 167 = .ok (.iload 4, 2) := by decide +kernel
theorem dX10_together_169 : decode cX10_together 169 = .ok (.istore 4, 2) := by decide +kernel
theorem dX10_together_171 : decode cX10_together 171 = .ok (.iload 7, 2) := by decide +kernel
theorem dX10_together_173 : decode cX10_together 173 = .ok (.iload 5, 2) := by decide +kernel
theorem dX10_together_175 : decode cX10_together 175 = .ok (.if_icmp .le 8, 3) := by decide +kernel
theorem dX10_together_178 : decode cX10_together 178 = .ok (.iload 7, 2) := by decide +kernel
theorem dX10_together_180 : decode cX10_together 180 = .ok (.goto 5, 3) := by decide +kernel
theorem dX10_together_183 : decode cX10_together 183 = .ok (.iload 5, 2) := by decide +kernel
theorem dX10_together_185 : decode cX10_together 185 = .ok (.istore 5, 2) := by decide +kernel
theorem dX10_together_187 : decode cX10_together 187 = .ok (.iinc 6 1, 3) := by decide +kernel
theorem dX10_together_190 : decode cX10_together 190 = .ok (.goto (-133), 3) := by decide +kernel
theorem dX10_together_193 : decode cX10_together 193 = .ok (.iload_n 3, 1) := by decide +kernel
theorem dX10_together_194 : decode cX10_together 194 = .ok (.ifCond .ne 8, 3) := by decide +kernel
theorem dX10_together_197 : decode cX10_together 197 = .ok (.iload 5, 2) := by decide +kernel
theorem dX10_together_199 : decode cX10_together 199 = .ok (.goto 5, 3) := by decide +kernel
theorem dX10_together_202 : decode cX10_together 202 = .ok (.iload 4, 2) := by decide +kernel
theorem dX10_together_204 : decode cX10_together 204 = .ok (.ireturn, 1) := by decide +kernel
theorem dX10_bits_0 : decode cX10_bits 0 = .ok (.iconst 0, 1) := by decide +kernel
theorem dX10_bits_1 : decode cX10_bits 1 = .ok (.istore_n 1, 1) := by decide +kernel
theorem dX10_bits_2 : decode cX10_bits 2 = .ok (.iload_n 0, 1) := by decide +kernel
theorem dX10_bits_3 : decode cX10_bits 3 = .ok (.istore_n 2, 1) := by decide +kernel
theorem dX10_bits_4 : decode cX10_bits 4 = .ok (.iload_n 2, 1) := by decide +kernel
theorem dX10_bits_5 : decode cX10_bits 5 = .ok (.ifCond .eq 15, 3) := by decide +kernel
theorem dX10_bits_8 : decode cX10_bits 8 = .ok (.iinc 1 1, 3) := by decide +kernel
theorem dX10_bits_11 : decode cX10_bits 11 = .ok (.iload_n 2, 1) := by decide +kernel
theorem dX10_bits_12 : decode cX10_bits 12 = .ok (.iload_n 2, 1) := by decide +kernel
theorem dX10_bits_13 : decode cX10_bits 13 = .ok (.iconst 1, 1) := by decide +kernel
theorem dX10_bits_14 : decode cX10_bits 14 = .ok (.isub, 1) := by decide +kernel
theorem dX10_bits_15 : decode cX10_bits 15 = .ok (.iand, 1) := by decide +kernel
theorem dX10_bits_16 : decode cX10_bits 16 = .ok (.istore_n 2, 1) := by decide +kernel
theorem dX10_bits_17 : decode cX10_bits 17 = .ok (.goto (-13), 3) := by decide +kernel
theorem dX10_bits_20 : decode cX10_bits 20 = .ok (.iload_n 1, 1) := by decide +kernel
theorem dX10_bits_21 : decode cX10_bits 21 = .ok (.ireturn, 1) := by decide +kernel
theorem dX10_worthAt_0 : decode cX10_worthAt 0 = .ok (.iload_n 3, 1) := by decide +kernel
theorem dX10_worthAt_1 : decode cX10_worthAt 1 = .ok (.iconst 4, 1) := by decide +kernel
theorem dX10_worthAt_2 : decode cX10_worthAt 2 = .ok (.if_icmp .ge 9, 3) := by decide +kernel
theorem dX10_worthAt_5 : decode cX10_worthAt 5 = .ok (.iconst 4, 1) := by decide +kernel
theorem dX10_worthAt_6 : decode cX10_worthAt 6 = .ok (.iload_n 3, 1) := by decide +kernel
theorem dX10_worthAt_7 : decode cX10_worthAt 7 = .ok (.isub, 1) := by decide +kernel
theorem dX10_worthAt_8 : decode cX10_worthAt 8 = .ok (.goto 6, 3) := by decide +kernel
theorem dX10_worthAt_11 : decode cX10_worthAt 11 = .ok (.iload_n 3, 1) := by decide +kernel
theorem dX10_worthAt_12 : decode cX10_worthAt 12 = .ok (.iconst 4, 1) := by decide +kernel
theorem dX10_worthAt_13 : decode cX10_worthAt 13 = .ok (.isub, 1) := by decide +kernel
theorem dX10_worthAt_14 : decode cX10_worthAt 14 = .ok (.istore 4, 2) := by decide +kernel
theorem dX10_worthAt_16 : decode cX10_worthAt 16 = .ok (.bipush 100, 2) := by decide +kernel
theorem dX10_worthAt_18 : decode cX10_worthAt 18 = .ok (.iconst 3, 1) := by decide +kernel
theorem dX10_worthAt_19 : decode cX10_worthAt 19 = .ok (.iload 4, 2) := by decide +kernel
theorem dX10_worthAt_21 : decode cX10_worthAt 21 = .ok (.imul, 1) := by decide +kernel
theorem dX10_worthAt_22 : decode cX10_worthAt 22 = .ok (.isub, 1) := by decide +kernel
theorem dX10_worthAt_23 : decode cX10_worthAt 23 = .ok (.iload_n 3, 1) := by decide +kernel
theorem dX10_worthAt_24 : decode cX10_worthAt 24 = .ok (.aload_n 0, 1) := by decide +kernel
theorem dX10_worthAt_25 : decode cX10_worthAt 25 = .ok (.getfield 19, 3) := by decide +kernel
theorem dX10_worthAt_28 : decode cX10_worthAt 28 = .ok (.iconst 0, 1) := by decide +kernel
theorem dX10_worthAt_29 : decode cX10_worthAt 29 = .ok (.iload_n 1, 1) := by decide +kernel
theorem dX10_worthAt_30 : decode cX10_worthAt 30 = .ok (.iadd, 1) := by decide +kernel
theorem dX10_worthAt_31 : decode cX10_worthAt 31 = .ok (.iaload, 1) := by decide +kernel
theorem dX10_worthAt_32 : decode cX10_worthAt 32 = .ok (.iconst 1, 1) := by decide +kernel
theorem dX10_worthAt_33 : decode cX10_worthAt 33 = .ok (.isub, 1) := by decide +kernel
theorem dX10_worthAt_34 : decode cX10_worthAt 34 = .ok (.if_icmp .ne 8, 3) := by decide +kernel
theorem dX10_worthAt_37 : decode cX10_worthAt 37 = .ok (.bipush 10, 2) := by decide +kernel
theorem dX10_worthAt_39 : decode cX10_worthAt 39 = .ok (.goto 4, 3) := by decide +kernel
theorem dX10_worthAt_42 : decode cX10_worthAt 42 = .ok (.iconst 0, 1) := by decide +kernel
theorem dX10_worthAt_43 : decode cX10_worthAt 43 = .ok (.iadd, 1) := by decide +kernel
theorem dX10_worthAt_44 : decode cX10_worthAt 44 = .ok (.istore 5, 2) := by decide +kernel
theorem dX10_worthAt_46 : decode cX10_worthAt 46 = .ok (.aload_n 0, 1) := by decide +kernel
theorem dX10_worthAt_47 : decode cX10_worthAt 47 = .ok (.iload_n 1, 1) := by decide +kernel
theorem dX10_worthAt_48 : decode cX10_worthAt 48 = .ok (.iload_n 2, 1) := by decide +kernel
theorem dX10_worthAt_49 : decode cX10_worthAt 49 = .ok (.iconst 2, 1) := by decide +kernel
theorem dX10_worthAt_50 : decode cX10_worthAt 50 = .ok (.invokevirtual 226, 3) := by decide +kernel
theorem dX10_worthAt_53 : decode cX10_worthAt 53 = .ok (.iload 5, 2) := by decide +kernel
theorem dX10_worthAt_55 : decode cX10_worthAt 55 = .ok (.imul, 1) := by decide +kernel
theorem dX10_worthAt_56 : decode cX10_worthAt 56 = .ok (.aload_n 0, 1) := by decide +kernel
theorem dX10_worthAt_57 : decode cX10_worthAt 57 = .ok (.iload_n 1, 1) := by decide +kernel
theorem dX10_worthAt_58 : decode cX10_worthAt 58 = .ok (.iload_n 2, 1) := by decide +kernel
theorem dX10_worthAt_59 : decode cX10_worthAt 59 = .ok (.iconst 0, 1) := by decide +kernel
theorem dX10_worthAt_60 : decode cX10_worthAt 60 = .ok (.invokevirtual 226, 3) := by decide +kernel
theorem dX10_worthAt_63 : decode cX10_worthAt 63 = .ok (.iload_n 3, 1) := by decide +kernel
theorem dX10_worthAt_64 : decode cX10_worthAt 64 = .ok (.imul, 1) := by decide +kernel
theorem dX10_worthAt_65 : decode cX10_worthAt 65 = .ok (.iadd, 1) := by decide +kernel
theorem dX10_worthAt_66 : decode cX10_worthAt 66 = .ok (.ireturn, 1) := by decide +kernel
theorem dX10_stands_0 : decode cX10_stands 0 = .ok (.aload_n 0, 1) := by decide +kernel
theorem dX10_stands_1 : decode cX10_stands 1 = .ok (.iconst 0, 1) := by decide +kernel
theorem dX10_stands_2 : decode cX10_stands 2 = .ok (.putfield 62, 3) := by decide +kernel
theorem dX10_stands_5 : decode cX10_stands 5 = .ok (.iload_n 1, 1) := by decide +kernel
theorem dX10_stands_6 : decode cX10_stands 6 = .ok (.invokestatic 217, 3) := by decide +kernel
theorem dX10_stands_9 : decode cX10_stands 9 = .ok (.ifCond .eq 19, 3) := by decide +kernel
theorem dX10_stands_12 : decode cX10_stands 12 = .ok (.aload_n 0, 1) := by decide +kernel
theorem dX10_stands_13 : decode cX10_stands 13 = .ok (.getfield 19, 3) := by decide +kernel
theorem dX10_stands_16 : decode cX10_stands 16 = .ok (.iconst 0, 1) := by decide +kernel
theorem dX10_stands_17 : decode cX10_stands 17 = .ok (.iload_n 1, 1) := by decide +kernel
theorem dX10_stands_18 : decode cX10_stands 18 = .ok (.iadd, 1) := by decide +kernel
theorem dX10_stands_19 : decode cX10_stands 19 = .ok (.iaload, 1) := by decide +kernel
theorem dX10_stands_20 : decode cX10_stands 20 = .ok (.ifCond .eq 8, 3) := by decide +kernel
theorem dX10_stands_23 : decode cX10_stands 23 = .ok (.iload_n 2, 1) := by decide +kernel
theorem dX10_stands_24 : decode cX10_stands 24 = .ok (.iconst (-1), 1) := by decide +kernel
theorem dX10_stands_25 : decode cX10_stands 25 = .ok (.if_icmp .ge 6, 3) := by decide +kernel
theorem dX10_stands_28 : decode cX10_stands 28 = .ok (.ldc 82, 2) := by decide +kernel
theorem dX10_stands_30 : decode cX10_stands 30 = .ok (.ireturn, 1) := by decide +kernel
theorem dX10_stands_31 : decode cX10_stands 31 = .ok (.aload_n 0, 1) := by decide +kernel
theorem dX10_stands_32 : decode cX10_stands 32 = .ok (.getfield 19, 3) := by decide +kernel
theorem dX10_stands_35 : decode cX10_stands 35 = .ok (.iconst 0, 1) := by decide +kernel
theorem dX10_stands_36 : decode cX10_stands 36 = .ok (.iload_n 1, 1) := by decide +kernel
theorem dX10_stands_37 : decode cX10_stands 37 = .ok (.iadd, 1) := by decide +kernel
theorem dX10_stands_38 : decode cX10_stands 38 = .ok (.iaload, 1) := by decide +kernel
theorem dX10_stands_39 : decode cX10_stands 39 = .ok (.istore_n 3, 1) := by decide +kernel
theorem dX10_stands_40 : decode cX10_stands 40 = .ok (.iconst 1, 1) := by decide +kernel
theorem dX10_stands_41 : decode cX10_stands 41 = .ok (.iload_n 3, 1) := by decide +kernel
theorem dX10_stands_42 : decode cX10_stands 42 = .ok (.ishl, 1) := by decide +kernel
theorem dX10_stands_43 : decode cX10_stands 43 = .ok (.iconst 1, 1) := by decide +kernel
theorem dX10_stands_44 : decode cX10_stands 44 = .ok (.isub, 1) := by decide +kernel
theorem dX10_stands_45 : decode cX10_stands 45 = .ok (.istore 4, 2) := by decide +kernel
theorem dX10_stands_47 : decode cX10_stands 47 = .ok (.aload_n 0, 1) := by decide +kernel
theorem dX10_stands_48 : decode cX10_stands 48 = .ok (.getfield 40, 3) := by decide +kernel
theorem dX10_stands_51 : decode cX10_stands 51 = .ok (.iload 4, 2) := by decide +kernel
theorem dX10_stands_53 : decode cX10_stands 53 = .ok (.iconst 0, 1) := by decide +kernel
theorem dX10_stands_54 : decode cX10_stands 54 = .ok (.iastore, 1) := by decide +kernel
theorem dX10_stands_55 : decode cX10_stands 55 = .ok (.iload 4, 2) := by decide +kernel
theorem dX10_stands_57 : decode cX10_stands 57 = .ok (.iconst 1, 1) := by decide +kernel
theorem dX10_stands_58 : decode cX10_stands 58 = .ok (.isub, 1) := by decide +kernel
theorem dX10_stands_59 : decode cX10_stands 59 = .ok (.istore 5, 2) := by decide +kernel
theorem dX10_stands_61 : decode cX10_stands 61 = .ok (.iload 5, 2) := by decide +kernel
theorem dX10_stands_63 : decode cX10_stands 63 = .ok (.ifCond .lt 94, 3) := by decide +kernel
theorem dX10_stands_66 : decode cX10_stands 66 = .ok (.iconst (-1), 1) := by decide +kernel
theorem dX10_stands_67 : decode cX10_stands 67 = .ok (.istore 6, 2) := by decide +kernel
theorem dX10_stands_69 : decode cX10_stands 69 = .ok (.iconst 0, 1) := by decide +kernel
theorem dX10_stands_70 : decode cX10_stands 70 = .ok (.istore 7, 2) := by decide +kernel
theorem dX10_stands_72 : decode cX10_stands 72 = .ok (.iload 7, 2) := by decide +kernel
theorem dX10_stands_74 : decode cX10_stands 74 = .ok (.iload_n 3, 1) := by decide +kernel
theorem dX10_stands_75 : decode cX10_stands 75 = .ok (.if_icmp .ge 67, 3) := by decide +kernel
theorem dX10_stands_78 : decode cX10_stands 78 = .ok (.iload 5, 2) := by decide +kernel
theorem dX10_stands_80 : decode cX10_stands 80 = .ok (.iload 7, 2) := by decide +kernel
theorem dX10_stands_82 : decode cX10_stands 82 = .ok (.ishr, 1) := by decide +kernel
theorem dX10_stands_83 : decode cX10_stands 83 = .ok (.iconst 1, 1) := by decide +kernel
theorem dX10_stands_84 : decode cX10_stands 84 = .ok (.iand, 1) := by decide +kernel
theorem dX10_stands_85 : decode cX10_stands 85 = .ok (.iconst 1, 1) := by decide +kernel
theorem dX10_stands_86 : decode cX10_stands 86 = .ok (.if_icmp .ne 7, 3) := by decide +kernel
theorem dX10_stands_89 : decode cX10_stands 89 = .ok (.iconst (-1), 1) := by decide +kernel
theorem dX10_stands_90 : decode cX10_stands 90 = .ok (.goto 28, 3) := by decide +kernel
theorem dX10_stands_93 : decode cX10_stands 93 = .ok (.aload_n 0, 1) := by decide +kernel
theorem dX10_stands_94 : decode cX10_stands 94 = .ok (.iload_n 1, 1) := by decide +kernel
theorem dX10_stands_95 : decode cX10_stands 95 = .ok (.iload 7, 2) := by decide +kernel
theorem dX10_stands_97 : decode cX10_stands 97 = .ok (.iload 5, 2) := by decide +kernel
theorem dX10_stands_99 : decode cX10_stands 99 = .ok (.invokestatic 273, 3) := by decide +kernel
theorem dX10_stands_102 : decode cX10_stands 102 = .ok (.invokevirtual 276, 3) := by decide +kernel
theorem dX10_stands_105 : decode cX10_stands 105 = .ok (.aload_n 0, 1) := by decide +kernel
theorem dX10_stands_106 : decode cX10_stands 106 = .ok (.getfield 40, 3) := by decide +kernel
theorem dX10_stands_109 : decode cX10_stands 109 = .ok (.iload 5, 2) := by decide +kernel
theorem dX10_stands_111 : decode cX10_stands 111 = .ok (.iconst 1, 1) := by decide +kernel
theorem dX10_stands_112 : decode cX10_stands 112 = .ok (.iload 7, 2) := by decide +kernel
theorem dX10_stands_114 : decode cX10_stands 114 = .ok (.ishl, 1) := by decide +kernel
theorem dX10_stands_115 : decode cX10_stands 115 = .ok (.ior, 1) := by decide +kernel
theorem dX10_stands_116 : decode cX10_stands 116 = .ok (.iaload, 1) := by decide +kernel
theorem dX10_stands_117 : decode cX10_stands 117 = .ok (.iadd, 1) := by decide +kernel
theorem dX10_stands_118 : decode cX10_stands 118 = .ok (.istore 8, 2) := by decide +kernel
theorem dX10_stands_120 : decode cX10_stands 120 = .ok (.iload 8, 2) := by decide +kernel
theorem dX10_stands_122 : decode cX10_stands 122 = .ok (.iload 6, 2) := by decide +kernel
theorem dX10_stands_124 : decode cX10_stands 124 = .ok (.if_icmp .le 8, 3) := by decide +kernel
theorem dX10_stands_127 : decode cX10_stands 127 = .ok (.iload 8, 2) := by decide +kernel
theorem dX10_stands_129 : decode cX10_stands 129 = .ok (.goto 5, 3) := by decide +kernel
theorem dX10_stands_132 : decode cX10_stands 132 = .ok (.iload 6, 2) := by decide +kernel
theorem dX10_stands_134 : decode cX10_stands 134 = .ok (.istore 6, 2) := by decide +kernel
theorem dX10_stands_136 : decode cX10_stands 136 = .ok (.iinc 7 1, 3) := by decide +kernel
theorem dX10_stands_139 : decode cX10_stands 139 = .ok (.goto (-67), 3) := by decide +kernel
theorem dX10_stands_142 : decode cX10_stands 142 = .ok (.aload_n 0, 1) := by decide +kernel
theorem dX10_stands_143 : decode cX10_stands 143 = .ok (.getfield 40, 3) := by decide +kernel
theorem dX10_stands_146 : decode cX10_stands 146 = .ok (.iload 5, 2) := by decide +kernel
theorem dX10_stands_148 : decode cX10_stands 148 = .ok (.iload 6, 2) := by decide +kernel
theorem dX10_stands_150 : decode cX10_stands 150 = .ok (.iastore, 1) := by decide +kernel
theorem dX10_stands_151 : decode cX10_stands 151 = .ok (.iinc 5 (-1), 3) := by decide +kernel
theorem dX10_stands_154 : decode cX10_stands 154 = .ok (.goto (-93), 3) := by decide +kernel
theorem dX10_stands_157 : decode cX10_stands 157 = .ok (.iload_n 2, 1) := by decide +kernel
theorem dX10_stands_158 : decode cX10_stands 158 = .ok (.ifCond .ge 10, 3) := by decide +kernel
theorem dX10_stands_161 : decode cX10_stands 161 = .ok (.aload_n 0, 1) := by decide +kernel
theorem dX10_stands_162 : decode cX10_stands 162 = .ok (.getfield 40, 3) := by decide +kernel
theorem dX10_stands_165 : decode cX10_stands 165 = .ok (.iconst 0, 1) := by decide +kernel
theorem dX10_stands_166 : decode cX10_stands 166 = .ok (.iaload, 1) := by decide +kernel
theorem dX10_stands_167 : decode cX10_stands 167 = .ok (.ireturn, 1) := by decide +kernel
theorem dX10_stands_168 : decode cX10_stands 168 = .ok (.iconst 0, 1) := by decide +kernel
theorem dX10_stands_169 : decode cX10_stands 169 = .ok (.istore 5, 2) := by decide +kernel
theorem dX10_stands_171 : decode cX10_stands 171 = .ok (.ldc 98, 2) := by decide +kernel
theorem dX10_stands_173 : decode cX10_stands 173 = .ok (.istore 6, 2) := by decide +kernel
theorem dX10_stands_175 : decode cX10_stands 175 = .ok (.iconst 0, 1) := by decide +kernel
theorem dX10_stands_176 : decode cX10_stands 176 = .ok (.istore 7, 2) := by decide +kernel
theorem dX10_stands_178 : decode cX10_stands 178 = .ok (.iload 7, 2) := by decide +kernel
theorem dX10_stands_180 : decode cX10_stands 180 = .ok (.iload_n 2, 1) := by decide +kernel
theorem dX10_stands_181 : decode cX10_stands 181 = .ok (.if_icmp .gt 107, 3) := by decide +kernel
theorem dX10_stands_184 : decode cX10_stands 184 = .ok (.iload 7, 2) := by decide +kernel
theorem dX10_stands_186 : decode cX10_stands 186 = .ok (.iload_n 3, 1) := by decide +kernel
theorem dX10_stands_187 : decode cX10_stands 187 = .ok (.if_icmp .ge 101, 3) := by decide +kernel
theorem dX10_stands_190 : decode cX10_stands 190 = .ok (.ldc 98, 2) := by decide +kernel
theorem dX10_stands_192 : decode cX10_stands 192 = .ok (.istore 6, 2) := by decide +kernel
theorem dX10_stands_194 : decode cX10_stands 194 = .ok (.iload_n 3, 1) := by decide +kernel
theorem dX10_stands_195 : decode cX10_stands 195 = .ok (.iconst 1, 1) := by decide +kernel
theorem dX10_stands_196 : decode cX10_stands 196 = .ok (.isub, 1) := by decide +kernel
theorem dX10_stands_197 : decode cX10_stands 197 = .ok (.istore 8, 2) := by decide +kernel
theorem dX10_stands_199 : decode cX10_stands 199 = .ok (.iload 8, 2) := by decide +kernel
theorem dX10_stands_201 : decode cX10_stands 201 = .ok (.ifCond .lt 72, 3) := by decide +kernel
theorem dX10_stands_204 : decode cX10_stands 204 = .ok (.iload 5, 2) := by decide +kernel
theorem dX10_stands_206 : decode cX10_stands 206 = .ok (.iload 8, 2) := by decide +kernel
theorem dX10_stands_208 : decode cX10_stands 208 = .ok (.ishr, 1) := by decide +kernel
theorem dX10_stands_209 : decode cX10_stands 209 = .ok (.iconst 1, 1) := by decide +kernel
theorem dX10_stands_210 : decode cX10_stands 210 = .ok (.iand, 1) := by decide +kernel
theorem dX10_stands_211 : decode cX10_stands 211 = .ok (.ifCond .ne 39, 3) := by decide +kernel
theorem dX10_stands_214 : decode cX10_stands 214 = .ok (.aload_n 0, 1) := by decide +kernel
theorem dX10_stands_215 : decode cX10_stands 215 = .ok (.iload_n 1, 1) := by decide +kernel
theorem dX10_stands_216 : decode cX10_stands 216 = .ok (.iload 8, 2) := by decide +kernel
theorem dX10_stands_218 : decode cX10_stands 218 = .ok (.iload 7, 2) := by decide +kernel
theorem dX10_stands_220 : decode cX10_stands 220 = .ok (.invokevirtual 276, 3) := by decide +kernel
theorem dX10_stands_223 : decode cX10_stands 223 = .ok (.aload_n 0, 1) := by decide +kernel
theorem dX10_stands_224 : decode cX10_stands 224 = .ok (.getfield 40, 3) := by decide +kernel
theorem dX10_stands_227 : decode cX10_stands 227 = .ok (.iload 5, 2) := by decide +kernel
theorem dX10_stands_229 : decode cX10_stands 229 = .ok (.iconst 1, 1) := by decide +kernel
theorem dX10_stands_230 : decode cX10_stands 230 = .ok (.iload 8, 2) := by decide +kernel
theorem dX10_stands_232 : decode cX10_stands 232 = .ok (.ishl, 1) := by decide +kernel
theorem dX10_stands_233 : decode cX10_stands 233 = .ok (.ior, 1) := by decide +kernel
theorem dX10_stands_234 : decode cX10_stands 234 = .ok (.iaload, 1) := by decide +kernel
theorem dX10_stands_235 : decode cX10_stands 235 = .ok (.iadd, 1) := by decide +kernel
theorem dX10_stands_236 : decode cX10_stands 236 = .ok (.aload_n 0, 1) := by decide +kernel
theorem dX10_stands_237 : decode cX10_stands 237 = .ok (.getfield 40, 3) := by decide +kernel
theorem dX10_stands_240 : decode cX10_stands 240 = .ok (.iload 5, 2) := by decide +kernel
theorem dX10_stands_242 : decode cX10_stands 242 = .ok (.iaload, 1) := by decide +kernel
theorem dX10_stands_243 : decode cX10_stands 243 = .ok (.if_icmp .ne 7, 3) := by decide +kernel
theorem dX10_stands_246 : decode cX10_stands 246 = .ok (.iconst 1, 1) := by decide +kernel
theorem dX10_stands_247 : decode cX10_stands 247 = .ok (.goto 4, 3) := by decide +kernel
theorem dX10_stands_250 : decode cX10_stands 250 = .ok (.iconst 0, 1) := by decide +kernel
theorem dX10_stands_251 : decode cX10_stands 251 = .ok (.istore 9, 2) := by decide +kernel
theorem dX10_stands_253 : decode cX10_stands 253 = .ok (.iload 9, 2) := by decide +kernel
theorem dX10_stands_255 : decode cX10_stands 255 = .ok (.ifCond .eq 8, 3) := by decide +kernel
theorem dX10_stands_258 : decode cX10_stands 258 = .ok (.iload 8, 2) := by decide +kernel
theorem dX10_stands_260 : decode cX10_stands 260 = .ok (.goto 5, 3) := by decide +kernel
theorem dX10_stands_263 : decode cX10_stands 263 = .ok (.iload 6, 2) := by decide +kernel
theorem dX10_stands_265 : decode cX10_stands 265 = .ok (.istore 6, 2) := by decide +kernel
theorem dX10_stands_267 : decode cX10_stands 267 = .ok (.iinc 8 (-1), 3) := by decide +kernel
theorem dX10_stands_270 : decode cX10_stands 270 = .ok (.goto (-71), 3) := by decide +kernel
theorem dX10_stands_273 : decode cX10_stands 273 = .ok (.iload 5, 2) := by decide +kernel
theorem dX10_stands_275 : decode cX10_stands 275 = .ok (.iconst 1, 1) := by decide +kernel
theorem dX10_stands_276 : decode cX10_stands 276 = .ok (.iload 6, 2) := by decide +kernel
theorem dX10_stands_278 : decode cX10_stands 278 = .ok (.ishl, 1) := by decide +kernel
theorem dX10_stands_279 : decode cX10_stands 279 = .ok (.ior, 1) := by decide +kernel
theorem dX10_stands_280 : decode cX10_stands 280 = .ok (.istore 5, 2) := by decide +kernel
theorem dX10_stands_282 : decode cX10_stands 282 = .ok (.iinc 7 1, 3) := by decide +kernel
theorem dX10_stands_285 : decode cX10_stands 285 = .ok (.goto (-107), 3) := by decide +kernel
theorem dX10_stands_288 : decode cX10_stands 288 = .ok (.iload_n 2, 1) := by decide +kernel
theorem dX10_stands_289 : decode cX10_stands 289 = .ok (.iload_n 3, 1) := by decide +kernel
theorem dX10_stands_290 : decode cX10_stands 290 = .ok (.if_icmp .ge 8, 3) := by decide +kernel
theorem dX10_stands_293 : decode cX10_stands 293 = .ok (.iload 6, 2) := by decide +kernel
theorem dX10_stands_295 : decode cX10_stands 295 = .ok (.goto 5, 3) := by decide +kernel
theorem dX10_stands_298 : decode cX10_stands 298 = .ok (.ldc 98, 2) := by decide +kernel
theorem dX10_stands_300 : decode cX10_stands 300 = .ok (.ireturn, 1) := by decide +kernel
theorem dX10_chosen_0 : decode cX10_chosen 0 = .ok (.aload_n 0, 1) := by decide +kernel
theorem dX10_chosen_1 : decode cX10_chosen 1 = .ok (.iconst 0, 1) := by decide +kernel
theorem dX10_chosen_2 : decode cX10_chosen 2 = .ok (.putfield 62, 3) := by decide +kernel
theorem dX10_chosen_5 : decode cX10_chosen 5 = .ok (.iload_n 1, 1) := by decide +kernel
theorem dX10_chosen_6 : decode cX10_chosen 6 = .ok (.i2l, 1) := by decide +kernel
theorem dX10_chosen_7 : decode cX10_chosen 7 = .ok (.lconst 0, 1) := by decide +kernel
theorem dX10_chosen_8 : decode cX10_chosen 8 = .ok (.ldc2_w 279, 3) := by decide +kernel
theorem dX10_chosen_11 : decode cX10_chosen 11 = .ok (.invokestatic 72, 3) := by decide +kernel
theorem dX10_chosen_14 : decode cX10_chosen 14 = .ok (.ifCond .eq 25, 3) := by decide +kernel
theorem dX10_chosen_17 : decode cX10_chosen 17 = .ok (.iload_n 2, 1) := by decide +kernel
theorem dX10_chosen_18 : decode cX10_chosen 18 = .ok (.i2l, 1) := by decide +kernel
theorem dX10_chosen_19 : decode cX10_chosen 19 = .ok (.lconst 1, 1) := by decide +kernel
theorem dX10_chosen_20 : decode cX10_chosen 20 = .ok (.ldc2_w 281, 3) := by decide +kernel
theorem dX10_chosen_23 : decode cX10_chosen 23 = .ok (.invokestatic 72, 3) := by decide +kernel
theorem dX10_chosen_26 : decode cX10_chosen 26 = .ok (.ifCond .eq 13, 3) := by decide +kernel
theorem dX10_chosen_29 : decode cX10_chosen 29 = .ok (.iload_n 3, 1) := by decide +kernel
theorem dX10_chosen_30 : decode cX10_chosen 30 = .ok (.i2l, 1) := by decide +kernel
theorem dX10_chosen_31 : decode cX10_chosen 31 = .ok (.lconst 0, 1) := by decide +kernel
theorem dX10_chosen_32 : decode cX10_chosen 32 = .ok (.lconst 1, 1) := by decide +kernel
theorem dX10_chosen_33 : decode cX10_chosen 33 = .ok (.invokestatic 72, 3) := by decide +kernel
theorem dX10_chosen_36 : decode cX10_chosen 36 = .ok (.ifCond .ne 6, 3) := by decide +kernel
theorem dX10_chosen_39 : decode cX10_chosen 39 = .ok (.ldc 82, 2) := by decide +kernel
theorem dX10_chosen_41 : decode cX10_chosen 41 = .ok (.ireturn, 1) := by decide +kernel
theorem dX10_chosen_42 : decode cX10_chosen 42 = .ok (.aload_n 0, 1) := by decide +kernel
theorem dX10_chosen_43 : decode cX10_chosen 43 = .ok (.getfield 213, 3) := by decide +kernel
theorem dX10_chosen_46 : decode cX10_chosen 46 = .ok (.ifCond .ne 6, 3) := by decide +kernel
theorem dX10_chosen_49 : decode cX10_chosen 49 = .ok (.ldc 230, 2) := by decide +kernel
theorem dX10_chosen_51 : decode cX10_chosen 51 = .ok (.ireturn, 1) := by decide +kernel
theorem dX10_chosen_52 : decode cX10_chosen 52 = .ok (.aload_n 0, 1) := by decide +kernel
theorem dX10_chosen_53 : decode cX10_chosen 53 = .ok (.getfield 19, 3) := by decide +kernel
theorem dX10_chosen_56 : decode cX10_chosen 56 = .ok (.iconst 0, 1) := by decide +kernel
theorem dX10_chosen_57 : decode cX10_chosen 57 = .ok (.iaload, 1) := by decide +kernel
theorem dX10_chosen_58 : decode cX10_chosen 58 = .ok (.istore 4, 2) := by decide +kernel
theorem dX10_chosen_60 : decode cX10_chosen 60 = .ok (.iload 4, 2) := by decide +kernel
theorem dX10_chosen_62 : decode cX10_chosen 62 = .ok (.aload_n 0, 1) := by decide +kernel
theorem dX10_chosen_63 : decode cX10_chosen 63 = .ok (.getfield 19, 3) := by decide +kernel
theorem dX10_chosen_66 : decode cX10_chosen 66 = .ok (.iconst 1, 1) := by decide +kernel
theorem dX10_chosen_67 : decode cX10_chosen 67 = .ok (.iaload, 1) := by decide +kernel
theorem dX10_chosen_68 : decode cX10_chosen 68 = .ok (.iadd, 1) := by decide +kernel
theorem dX10_chosen_69 : decode cX10_chosen 69 = .ok (.istore 5, 2) := by decide +kernel
theorem dX10_chosen_71 : decode cX10_chosen 71 = .ok (.iconst 0, 1) := by decide +kernel
theorem dX10_chosen_72 : decode cX10_chosen 72 = .ok (.istore 6, 2) := by decide +kernel
theorem dX10_chosen_74 : decode cX10_chosen 74 = .ok (.iconst 0, 1) := by decide +kernel
theorem dX10_chosen_75 : decode cX10_chosen 75 = .ok (.istore 7, 2) := by decide +kernel
theorem dX10_chosen_77 : decode cX10_chosen 77 = .ok (.iconst 1, 1) := by decide +kernel
theorem dX10_chosen_78 : decode cX10_chosen 78 = .ok (.istore 8, 2) := by decide +kernel
theorem dX10_chosen_80 : decode cX10_chosen 80 = .ok (.iload 8, 2) := by decide +kernel
theorem dX10_chosen_82 : decode cX10_chosen 82 = .ok (.iconst 1, 1) := by decide +kernel
theorem dX10_chosen_83 : decode cX10_chosen 83 = .ok (.iload 5, 2) := by decide +kernel
theorem dX10_chosen_85 : decode cX10_chosen 85 = .ok (.ishl, 1) := by decide +kernel
theorem dX10_chosen_86 : decode cX10_chosen 86 = .ok (.if_icmp .ge 143, 3) := by decide +kernel
theorem dX10_chosen_89 : decode cX10_chosen 89 = .ok (.iconst 0, 1) := by decide +kernel
theorem dX10_chosen_90 : decode cX10_chosen 90 = .ok (.istore 9, 2) := by decide +kernel
theorem dX10_chosen_92 : decode cX10_chosen 92 = .ok (.iconst 0, 1) := by decide +kernel
theorem dX10_chosen_93 : decode cX10_chosen 93 = .ok (.istore 10, 2) := by decide +kernel
theorem dX10_chosen_95 : decode cX10_chosen 95 = .ok (.iconst 0, 1) := by decide +kernel
theorem dX10_chosen_96 : decode cX10_chosen 96 = .ok (.istore 11, 2) := by decide +kernel
theorem dX10_chosen_98 : decode cX10_chosen 98 = .ok (.iconst 0, 1) := by decide +kernel
theorem dX10_chosen_99 : decode cX10_chosen 99 = .ok (.istore 12, 2) := by decide +kernel
theorem dX10_chosen_101 : decode cX10_chosen 101 = .ok (.iload 12, 2) := by decide +kernel
theorem dX10_chosen_103 : decode cX10_chosen 103 = .ok (.iload 5, 2) := by decide +kernel
theorem dX10_chosen_105 : decode cX10_chosen 105 = .ok (.if_icmp .ge 91, 3) := by decide +kernel
theorem dX10_chosen_108 : decode cX10_chosen 108 = .ok (.iload 8, 2) := by decide +kernel
theorem dX10_chosen_110 : decode cX10_chosen 110 = .ok (.iload 12, 2) := by decide +kernel
theorem dX10_chosen_112 : decode cX10_chosen 112 = .ok (.ishr, 1) := by decide +kernel
theorem dX10_chosen_113 : decode cX10_chosen 113 = .ok (.iconst 1, 1) := by decide +kernel
theorem dX10_chosen_114 : decode cX10_chosen 114 = .ok (.iand, 1) := by decide +kernel
theorem dX10_chosen_115 : decode cX10_chosen 115 = .ok (.iconst 1, 1) := by decide +kernel
theorem dX10_chosen_116 : decode cX10_chosen 116 = .ok (.if_icmp .ne 74, 3) := by decide +kernel
theorem dX10_chosen_119 : decode cX10_chosen 119 = .ok (.iload 9, 2) := by decide +kernel
theorem dX10_chosen_121 : decode cX10_chosen 121 = .ok (.iload 12, 2) := by decide +kernel
theorem dX10_chosen_123 : decode cX10_chosen 123 = .ok (.iload 4, 2) := by decide +kernel
theorem dX10_chosen_125 : decode cX10_chosen 125 = .ok (.if_icmp .ge 14, 3) := by decide +kernel
theorem dX10_chosen_128 : decode cX10_chosen 128 = .ok (.aload_n 0, 1) := by decide +kernel
theorem dX10_chosen_129 : decode cX10_chosen 129 = .ok (.iconst 0, 1) := by decide +kernel
theorem dX10_chosen_130 : decode cX10_chosen 130 = .ok (.iload 12, 2) := by decide +kernel
theorem dX10_chosen_132 : decode cX10_chosen 132 = .ok (.iconst 0, 1) := by decide +kernel
theorem dX10_chosen_133 : decode cX10_chosen 133 = .ok (.invokevirtual 226, 3) := by decide +kernel
theorem dX10_chosen_136 : decode cX10_chosen 136 = .ok (.goto 14, 3) := by decide +kernel
theorem dX10_chosen_139 : decode cX10_chosen 139 = .ok (.aload_n 0, 1) := by decide +kernel
theorem dX10_chosen_140 : decode cX10_chosen 140 = .ok (.iconst 1, 1) := by decide +kernel
theorem dX10_chosen_141 : decode cX10_chosen 141 = .ok (.iload 12, 2) := by decide +kernel
theorem dX10_chosen_143 : decode cX10_chosen 143 = .ok (.iload 4, 2) := by decide +kernel
theorem dX10_chosen_145 : decode cX10_chosen 145 = .ok (.isub, 1) := by decide +kernel
theorem dX10_chosen_146 : decode cX10_chosen 146 = .ok (.iconst 0, 1) := by decide +kernel
theorem dX10_chosen_147 : decode cX10_chosen 147 = .ok (.invokevirtual 226, 3) := by decide +kernel
theorem dX10_chosen_150 : decode cX10_chosen 150 = .ok (.iadd, 1) := by decide +kernel
theorem dX10_chosen_151 : decode cX10_chosen 151 = .ok (.istore 9, 2) := by decide +kernel
theorem dX10_chosen_153 : decode cX10_chosen 153 = .ok (.iload 10, 2) := by decide +kernel
theorem dX10_chosen_155 : decode cX10_chosen 155 = .ok (.iload 12, 2) := by decide +kernel
theorem dX10_chosen_157 : decode cX10_chosen 157 = .ok (.iload 4, 2) := by decide +kernel
theorem dX10_chosen_159 : decode cX10_chosen 159 = .ok (.if_icmp .ge 14, 3) := by decide +kernel
theorem dX10_chosen_162 : decode cX10_chosen 162 = .ok (.aload_n 0, 1) := by decide +kernel
theorem dX10_chosen_163 : decode cX10_chosen 163 = .ok (.iconst 0, 1) := by decide +kernel
theorem dX10_chosen_164 : decode cX10_chosen 164 = .ok (.iload 12, 2) := by decide +kernel
theorem dX10_chosen_166 : decode cX10_chosen 166 = .ok (.iconst 1, 1) := by decide +kernel
theorem dX10_chosen_167 : decode cX10_chosen 167 = .ok (.invokevirtual 226, 3) := by decide +kernel
theorem dX10_chosen_170 : decode cX10_chosen 170 = .ok (.goto 14, 3) := by decide +kernel
theorem dX10_chosen_173 : decode cX10_chosen 173 = .ok (.aload_n 0, 1) := by decide +kernel
theorem dX10_chosen_174 : decode cX10_chosen 174 = .ok (.iconst 1, 1) := by decide +kernel
theorem dX10_chosen_175 : decode cX10_chosen 175 = .ok (.iload 12, 2) := by decide +kernel
theorem dX10_chosen_177 : decode cX10_chosen 177 = .ok (.iload 4, 2) := by decide +kernel
theorem dX10_chosen_179 : decode cX10_chosen 179 = .ok (.isub, 1) := by decide +kernel
theorem dX10_chosen_180 : decode cX10_chosen 180 = .ok (.iconst 1, 1) := by decide +kernel
theorem dX10_chosen_181 : decode cX10_chosen 181 = .ok (.invokevirtual 226, 3) := by decide +kernel
theorem dX10_chosen_184 : decode cX10_chosen 184 = .ok (.iadd, 1) := by decide +kernel
theorem dX10_chosen_185 : decode cX10_chosen 185 = .ok (.istore 10, 2) := by decide +kernel
theorem dX10_chosen_187 : decode cX10_chosen 187 = .ok (.iinc 11 1, 3) := by decide +kernel
theorem dX10_chosen_190 : decode cX10_chosen 190 = .ok (.iinc 12 1, 3) := by decide +kernel
theorem dX10_chosen_193 : decode cX10_chosen 193 = .ok (.goto (-92), 3) := by decide +kernel
theorem dX10_chosen_196 : decode cX10_chosen 196 = .ok (.iload 9, 2) := by decide +kernel
theorem dX10_chosen_198 : decode cX10_chosen 198 = .ok (.iload_n 1, 1) := by decide +kernel
theorem dX10_chosen_199 : decode cX10_chosen 199 = .ok (.if_icmp .gt 24, 3) := by decide +kernel
theorem dX10_chosen_202 : decode cX10_chosen 202 = .ok (.iload 11, 2) := by decide +kernel
theorem dX10_chosen_204 : decode cX10_chosen 204 = .ok (.iload_n 2, 1) := by decide +kernel
theorem dX10_chosen_205 : decode cX10_chosen 205 = .ok (.if_icmp .gt 18, 3) := by decide +kernel
theorem dX10_chosen_208 : decode cX10_chosen 208 = .ok (.iload 10, 2) := by decide +kernel
theorem dX10_chosen_210 : decode cX10_chosen 210 = .ok (.iload 7, 2) := by decide +kernel
theorem dX10_chosen_212 : decode cX10_chosen 212 = .ok (.if_icmp .le 11, 3) := by decide +kernel
theorem dX10_chosen_215 : decode cX10_chosen 215 = .ok (.iload 8, 2) := by decide +kernel
theorem dX10_chosen_217 : decode cX10_chosen 217 = .ok (.istore 6, 2) := by decide +kernel
theorem dX10_chosen_219 : decode cX10_chosen 219 = .ok (.iload 10, 2) := by decide +kernel
theorem dX10_chosen_221 : decode cX10_chosen 221 = .ok (.istore 7, 2) := by decide +kernel
theorem dX10_chosen_223 : decode cX10_chosen 223 = .ok (.iinc 8 1, 3) := by decide +kernel
theorem dX10_chosen_226 : decode cX10_chosen 226 = .ok (.goto (-146), 3) := by decide +kernel
theorem dX10_chosen_229 : decode cX10_chosen 229 = .ok (.iload_n 3, 1) := by decide +kernel
theorem dX10_chosen_230 : decode cX10_chosen 230 = .ok (.ifCond .ne 8, 3) := by decide +kernel
theorem dX10_chosen_233 : decode cX10_chosen 233 = .ok (.iload 6, 2) := by decide +kernel
theorem dX10_chosen_235 : decode cX10_chosen 235 = .ok (.goto 5, 3) := by decide +kernel
theorem dX10_chosen_238 : decode cX10_chosen 238 = .ok (.iload 7, 2) := by decide +kernel
theorem dX10_chosen_240 : decode cX10_chosen 240 = .ok (.ireturn, 1) := by decide +kernel
theorem dX10_can_0 : decode cX10_can 0 = .ok (.iload_n 0, 1) := by decide +kernel
theorem dX10_can_1 : decode cX10_can 1 = .ok (.iload_n 1, 1) := by decide +kernel
theorem dX10_can_2 : decode cX10_can 2 = .ok (.iconst 1, 1) := by decide +kernel
theorem dX10_can_3 : decode cX10_can 3 = .ok (.if_icmp .ne 7, 3) := by decide +kernel
theorem dX10_can_6 : decode cX10_can 6 = .ok (.iconst 2, 1) := by decide +kernel
theorem dX10_can_7 : decode cX10_can 7 = .ok (.goto 13, 3) := by decide +kernel
theorem dX10_can_10 : decode cX10_can 10 = .ok (.iload_n 1, 1) := by decide +kernel
theorem dX10_can_11 : decode cX10_can 11 = .ok (.iconst 2, 1) := by decide +kernel
theorem dX10_can_12 : decode cX10_can 12 = .ok (.if_icmp .ne 7, 3) := by decide +kernel
theorem dX10_can_15 : decode cX10_can 15 = .ok (.iconst 1, 1) := by decide +kernel
theorem dX10_can_16 : decode cX10_can 16 = .ok (.goto 4, 3) := by decide +kernel
theorem dX10_can_19 : decode cX10_can 19 = .ok (.iconst 0, 1) := by decide +kernel
theorem dX10_can_20 : decode cX10_can 20 = .ok (.if_icmp .lt 7, 3) := by decide +kernel
theorem dX10_can_23 : decode cX10_can 23 = .ok (.iconst 1, 1) := by decide +kernel
theorem dX10_can_24 : decode cX10_can 24 = .ok (.goto 4, 3) := by decide +kernel
theorem dX10_can_27 : decode cX10_can 27 = .ok (.iconst 0, 1) := by decide +kernel
theorem dX10_can_28 : decode cX10_can 28 = .ok (.ireturn, 1) := by decide +kernel
theorem dX10_breathed_0 : decode cX10_breathed 0 = .ok (.iload_n 1, 1) := by decide +kernel
theorem dX10_breathed_1 : decode cX10_breathed 1 = .ok (.ifCond .ne 20, 3) := by decide +kernel
theorem dX10_breathed_4 : decode cX10_breathed 4 = .ok (.iload_n 0, 1) := by decide +kernel
theorem dX10_breathed_5 : decode cX10_breathed 5 = .ok (.bipush 9, 2) := by decide +kernel
theorem dX10_breathed_7 : decode cX10_breathed 7 = .ok (.if_icmp .ge 9, 3) := by decide +kernel
theorem dX10_breathed_10 : decode cX10_breathed 10 = .ok (.iload_n 0, 1) := by decide +kernel
theorem dX10_breathed_11 : decode cX10_breathed 11 = .ok (.iconst 1, 1) := by decide +kernel
theorem dX10_breathed_12 : decode cX10_breathed 12 = .ok (.iadd, 1) := by decide +kernel
theorem dX10_breathed_13 : decode cX10_breathed 13 = .ok (.goto 22, 3) := by decide +kernel
theorem dX10_breathed_16 : decode cX10_breathed 16 = .ok (.bipush 9, 2) := by decide +kernel
theorem dX10_breathed_18 : decode cX10_breathed 18 = .ok (.goto 17, 3) := by decide +kernel
theorem dX10_breathed_21 : decode cX10_breathed 21 = .ok (.iload_n 1, 1) := by decide +kernel
theorem dX10_breathed_22 : decode cX10_breathed 22 = .ok (.iconst 1, 1) := by decide +kernel
theorem dX10_breathed_23 : decode cX10_breathed 23 = .ok (.if_icmp .ne 9, 3) := by decide +kernel
theorem dX10_breathed_26 : decode cX10_breathed 26 = .ok (.iload_n 0, 1) := by decide +kernel
theorem dX10_breathed_27 : decode cX10_breathed 27 = .ok (.iconst 2, 1) := by decide +kernel
theorem dX10_breathed_28 : decode cX10_breathed 28 = .ok (.isub, 1) := by decide +kernel
theorem dX10_breathed_29 : decode cX10_breathed 29 = .ok (.goto 6, 3) := by decide +kernel
theorem dX10_breathed_32 : decode cX10_breathed 32 = .ok (.iload_n 0, 1) := by decide +kernel
theorem dX10_breathed_33 : decode cX10_breathed 33 = .ok (.iconst 1, 1) := by decide +kernel
theorem dX10_breathed_34 : decode cX10_breathed 34 = .ok (.isub, 1) := by decide +kernel
theorem dX10_breathed_35 : decode cX10_breathed 35 = .ok (.ireturn, 1) := by decide +kernel
theorem dX10_gain_0 : decode cX10_gain 0 = .ok (.iload_n 0, 1) := by decide +kernel
theorem dX10_gain_1 : decode cX10_gain 1 = .ok (.iload_n 1, 1) := by decide +kernel
theorem dX10_gain_2 : decode cX10_gain 2 = .ok (.if_icmp .ne 5, 3) := by decide +kernel
theorem dX10_gain_5 : decode cX10_gain 5 = .ok (.iconst 0, 1) := by decide +kernel
theorem dX10_gain_6 : decode cX10_gain 6 = .ok (.ireturn, 1) := by decide +kernel
theorem dX10_gain_7 : decode cX10_gain 7 = .ok (.iload_n 0, 1) := by decide +kernel
theorem dX10_gain_8 : decode cX10_gain 8 = .ok (.iconst 1, 1) := by decide +kernel
theorem dX10_gain_9 : decode cX10_gain 9 = .ok (.if_icmp .ne 14, 3) := by decide +kernel
theorem dX10_gain_12 : decode cX10_gain 12 = .ok (.iload_n 1, 1) := by decide +kernel
theorem dX10_gain_13 : decode cX10_gain 13 = .ok (.ifCond .ne 7, 3) := by decide +kernel
theorem dX10_gain_16 : decode cX10_gain 16 = .ok (.iconst 2, 1) := by decide +kernel
theorem dX10_gain_17 : decode cX10_gain 17 = .ok (.goto 5, 3) := by decide +kernel
theorem dX10_gain_20 : decode cX10_gain 20 = .ok (.bipush (-3), 2) := by decide +kernel
theorem dX10_gain_22 : decode cX10_gain 22 = .ok (.ireturn, 1) := by decide +kernel
theorem dX10_gain_23 : decode cX10_gain 23 = .ok (.iload_n 1, 1) := by decide +kernel
theorem dX10_gain_24 : decode cX10_gain 24 = .ok (.iconst 1, 1) := by decide +kernel
theorem dX10_gain_25 : decode cX10_gain 25 = .ok (.if_icmp .ne 14, 3) := by decide +kernel
theorem dX10_gain_28 : decode cX10_gain 28 = .ok (.iload_n 0, 1) := by decide +kernel
theorem dX10_gain_29 : decode cX10_gain 29 = .ok (.ifCond .ne 8, 3) := by decide +kernel
theorem dX10_gain_32 : decode cX10_gain 32 = .ok (.bipush (-2), 2) := by decide +kernel
theorem dX10_gain_34 : decode cX10_gain 34 = .ok (.goto 4, 3) := by decide +kernel
theorem dX10_gain_37 : decode cX10_gain 37 = .ok (.iconst 3, 1) := by decide +kernel
theorem dX10_gain_38 : decode cX10_gain 38 = .ok (.ireturn, 1) := by decide +kernel
theorem dX10_gain_39 : decode cX10_gain 39 = .ok (.iload_n 0, 1) := by decide +kernel
theorem dX10_gain_40 : decode cX10_gain 40 = .ok (.iconst 2, 1) := by decide +kernel
theorem dX10_gain_41 : decode cX10_gain 41 = .ok (.if_icmp .ne 7, 3) := by decide +kernel
theorem dX10_gain_44 : decode cX10_gain 44 = .ok (.iconst (-1), 1) := by decide +kernel
theorem dX10_gain_45 : decode cX10_gain 45 = .ok (.goto 4, 3) := by decide +kernel
theorem dX10_gain_48 : decode cX10_gain 48 = .ok (.iconst 1, 1) := by decide +kernel
theorem dX10_gain_49 : decode cX10_gain 49 = .ok (.ireturn, 1) := by decide +kernel
theorem dX10_knownFor_0 : decode cX10_knownFor 0 = .ok (.iconst 0, 1) := by decide +kernel
theorem dX10_knownFor_1 : decode cX10_knownFor 1 = .ok (.istore 4, 2) := by decide +kernel
theorem dX10_knownFor_3 : decode cX10_knownFor 3 = .ok (.iconst 0, 1) := by decide +kernel
theorem dX10_knownFor_4 : decode cX10_knownFor 4 = .ok (.istore 5, 2) := by decide +kernel
theorem dX10_knownFor_6 : decode cX10_knownFor 6 = .ok (.iconst 0, 1) := by decide +kernel
theorem dX10_knownFor_7 : decode cX10_knownFor 7 = .ok (.istore 6, 2) := by decide +kernel
theorem dX10_knownFor_9 : decode cX10_knownFor 9 = .ok (.iload 6, 2) := by decide +kernel
theorem dX10_knownFor_11 : decode cX10_knownFor 11 = .ok (.iconst 3, 1) := by decide +kernel
theorem dX10_knownFor_12 : decode cX10_knownFor 12 = .ok (.if_icmp .ge 71, 3) := by decide +kernel
theorem dX10_knownFor_15 : decode cX10_knownFor 15 = .ok (.iload_n 2, 1) := by decide +kernel
theorem dX10_knownFor_16 : decode cX10_knownFor 16 = .ok (.iload 6, 2) := by decide +kernel
theorem dX10_knownFor_18 : decode cX10_knownFor 18 = .ok (.invokestatic 283, 3) := by decide +kernel
theorem dX10_knownFor_21 : decode cX10_knownFor 21 = .ok (.ifCond .eq 56, 3) := by decide +kernel
theorem dX10_knownFor_24 : decode cX10_knownFor 24 = .ok (.iload_n 3, 1) := by decide +kernel
theorem dX10_knownFor_25 : decode cX10_knownFor 25 = .ok (.iload 6, 2) := by decide +kernel
theorem dX10_knownFor_27 : decode cX10_knownFor 27 = .ok (.invokestatic 286, 3) := by decide +kernel
theorem dX10_knownFor_30 : decode cX10_knownFor 30 = .ok (.aload_n 0, 1) := by decide +kernel
theorem dX10_knownFor_31 : decode cX10_knownFor 31 = .ok (.getfield 46, 3) := by decide +kernel
theorem dX10_knownFor_34 : decode cX10_knownFor 34 = .ok (.bipush 10, 2) := by decide +kernel
theorem dX10_knownFor_36 : decode cX10_knownFor 36 = .ok (.iload_n 1, 1) := by decide +kernel
theorem dX10_knownFor_37 : decode cX10_knownFor 37 = .ok (.iload_n 3, 1) := by decide +kernel
theorem dX10_knownFor_38 : decode cX10_knownFor 38 = .ok (.invokestatic 289, 3) := by decide +kernel
theorem dX10_knownFor_41 : decode cX10_knownFor 41 = .ok (.imul, 1) := by decide +kernel
theorem dX10_knownFor_42 : decode cX10_knownFor 42 = .ok (.iload_n 2, 1) := by decide +kernel
theorem dX10_knownFor_43 : decode cX10_knownFor 43 = .ok (.iload 6, 2) := by decide +kernel
theorem dX10_knownFor_45 : decode cX10_knownFor 45 = .ok (.invokestatic 289, 3) := by decide +kernel
theorem dX10_knownFor_48 : decode cX10_knownFor 48 = .ok (.iadd, 1) := by decide +kernel
theorem dX10_knownFor_49 : decode cX10_knownFor 49 = .ok (.iaload, 1) := by decide +kernel
theorem dX10_knownFor_50 : decode cX10_knownFor 50 = .ok (.iadd, 1) := by decide +kernel
theorem dX10_knownFor_51 : decode cX10_knownFor 51 = .ok (.istore 7, 2) := by decide +kernel
theorem dX10_knownFor_53 : decode cX10_knownFor 53 = .ok (.iload 5, 2) := by decide +kernel
theorem dX10_knownFor_55 : decode cX10_knownFor 55 = .ok (.ifCond .eq 10, 3) := by decide +kernel
theorem dX10_knownFor_58 : decode cX10_knownFor 58 = .ok (.iload 7, 2) := by decide +kernel
theorem dX10_knownFor_60 : decode cX10_knownFor 60 = .ok (.iload 4, 2) := by decide +kernel
theorem dX10_knownFor_62 : decode cX10_knownFor 62 = .ok (.if_icmp .ge 8, 3) := by decide +kernel
theorem dX10_knownFor_65 : decode cX10_knownFor 65 = .ok (.iload 7, 2) := by decide +kernel
theorem dX10_knownFor_67 : decode cX10_knownFor 67 = .ok (.goto 5, 3) := by decide +kernel
theorem dX10_knownFor_70 : decode cX10_knownFor 70 = .ok (.iload 4, 2) := by decide +kernel
theorem dX10_knownFor_72 : decode cX10_knownFor 72 = .ok (.istore 4, 2) := by decide +kernel
theorem dX10_knownFor_74 : decode cX10_knownFor 74 = .ok (.iconst 1, 1) := by decide +kernel
theorem dX10_knownFor_75 : decode cX10_knownFor 75 = .ok (.istore 5, 2) := by decide +kernel
theorem dX10_knownFor_77 : decode cX10_knownFor 77 = .ok (.iinc 6 1, 3) := by decide +kernel
theorem dX10_knownFor_80 : decode cX10_knownFor 80 = .ok (.goto (-71), 3) := by decide +kernel
theorem dX10_knownFor_83 : decode cX10_knownFor 83 = .ok (.iload 4, 2) := by decide +kernel
theorem dX10_knownFor_85 : decode cX10_knownFor 85 = .ok (.ireturn, 1) := by decide +kernel
theorem dX10_bestFor_0 : decode cX10_bestFor 0 = .ok (.iconst 0, 1) := by decide +kernel
theorem dX10_bestFor_1 : decode cX10_bestFor 1 = .ok (.istore_n 3, 1) := by decide +kernel
theorem dX10_bestFor_2 : decode cX10_bestFor 2 = .ok (.aload_n 0, 1) := by decide +kernel
theorem dX10_bestFor_3 : decode cX10_bestFor 3 = .ok (.ldc 98, 2) := by decide +kernel
theorem dX10_bestFor_5 : decode cX10_bestFor 5 = .ok (.putfield 292, 3) := by decide +kernel
theorem dX10_bestFor_8 : decode cX10_bestFor 8 = .ok (.iconst 0, 1) := by decide +kernel
theorem dX10_bestFor_9 : decode cX10_bestFor 9 = .ok (.istore 4, 2) := by decide +kernel
theorem dX10_bestFor_11 : decode cX10_bestFor 11 = .ok (.iload 4, 2) := by decide +kernel
theorem dX10_bestFor_13 : decode cX10_bestFor 13 = .ok (.iconst 3, 1) := by decide +kernel
theorem dX10_bestFor_14 : decode cX10_bestFor 14 = .ok (.if_icmp .ge 52, 3) := by decide +kernel
theorem dX10_bestFor_17 : decode cX10_bestFor 17 = .ok (.iload_n 1, 1) := by decide +kernel
theorem dX10_bestFor_18 : decode cX10_bestFor 18 = .ok (.iload 4, 2) := by decide +kernel
theorem dX10_bestFor_20 : decode cX10_bestFor 20 = .ok (.invokestatic 283, 3) := by decide +kernel
theorem dX10_bestFor_23 : decode cX10_bestFor 23 = .ok (.ifCond .eq 37, 3) := by decide +kernel
theorem dX10_bestFor_26 : decode cX10_bestFor 26 = .ok (.aload_n 0, 1) := by decide +kernel
theorem dX10_bestFor_27 : decode cX10_bestFor 27 = .ok (.iload_n 1, 1) := by decide +kernel
theorem dX10_bestFor_28 : decode cX10_bestFor 28 = .ok (.iload_n 2, 1) := by decide +kernel
theorem dX10_bestFor_29 : decode cX10_bestFor 29 = .ok (.iload 4, 2) := by decide +kernel
theorem dX10_bestFor_31 : decode cX10_bestFor 31 = .ok (.invokevirtual 295, 3) := by decide +kernel
theorem dX10_bestFor_34 : decode cX10_bestFor 34 = .ok (.istore 5, 2) := by decide +kernel
theorem dX10_bestFor_36 : decode cX10_bestFor 36 = .ok (.aload_n 0, 1) := by decide +kernel
theorem dX10_bestFor_37 : decode cX10_bestFor 37 = .ok (.getfield 292, 3) := by decide +kernel
theorem dX10_bestFor_40 : decode cX10_bestFor 40 = .ok (.ldc 98, 2) := by decide +kernel
theorem dX10_bestFor_42 : decode cX10_bestFor 42 = .ok (.if_icmp .eq 9, 3) := by decide +kernel
theorem dX10_bestFor_45 : decode cX10_bestFor 45 = .ok (.iload 5, 2) := by decide +kernel
theorem dX10_bestFor_47 : decode cX10_bestFor 47 = .ok (.iload_n 3, 1) := by decide +kernel
theorem dX10_bestFor_48 : decode cX10_bestFor 48 = .ok (.if_icmp .le 12, 3) := by decide +kernel
theorem dX10_bestFor_51 : decode cX10_bestFor 51 = .ok (.aload_n 0, 1) := by decide +kernel
theorem dX10_bestFor_52 : decode cX10_bestFor 52 = .ok (.iload 4, 2) := by decide +kernel
theorem dX10_bestFor_54 : decode cX10_bestFor 54 = .ok (.putfield 292, 3) := by decide +kernel
theorem dX10_bestFor_57 : decode cX10_bestFor 57 = .ok (.iload 5, 2) := by decide +kernel
theorem dX10_bestFor_59 : decode cX10_bestFor 59 = .ok (.istore_n 3, 1) := by decide +kernel
theorem dX10_bestFor_60 : decode cX10_bestFor 60 = .ok (.iinc 4 1, 3) := by decide +kernel
theorem dX10_bestFor_63 : decode cX10_bestFor 63 = .ok (.goto (-52), 3) := by decide +kernel
theorem dX10_bestFor_66 : decode cX10_bestFor 66 = .ok (.iload_n 3, 1) := by decide +kernel
theorem dX10_bestFor_67 : decode cX10_bestFor 67 = .ok (.ireturn, 1) := by decide +kernel
theorem dX10_game_0 : decode cX10_game 0 = .ok (.aload_n 0, 1) := by decide +kernel
theorem dX10_game_1 : decode cX10_game 1 = .ok (.iconst 0, 1) := by decide +kernel
theorem dX10_game_2 : decode cX10_game 2 = .ok (.putfield 62, 3) := by decide +kernel
theorem dX10_game_5 : decode cX10_game 5 = .ok (.iload_n 1, 1) := by decide +kernel
theorem dX10_game_6 : decode cX10_game 6 = .ok (.i2l, 1) := by decide +kernel
theorem dX10_game_7 : decode cX10_game 7 = .ok (.lconst 0, 1) := by decide +kernel
theorem dX10_game_8 : decode cX10_game 8 = .ok (.ldc2_w 298, 3) := by decide +kernel
theorem dX10_game_11 : decode cX10_game 11 = .ok (.invokestatic 72, 3) := by decide +kernel
theorem dX10_game_14 : decode cX10_game 14 = .ok (.ifCond .eq 38, 3) := by decide +kernel
theorem dX10_game_17 : decode cX10_game 17 = .ok (.iload_n 2, 1) := by decide +kernel
theorem dX10_game_18 : decode cX10_game 18 = .ok (.i2l, 1) := by decide +kernel
theorem dX10_game_19 : decode cX10_game 19 = .ok (.lconst 0, 1) := by decide +kernel
theorem dX10_game_20 : decode cX10_game 20 = .ok (.ldc2_w 298, 3) := by decide +kernel
theorem dX10_game_23 : decode cX10_game 23 = .ok (.invokestatic 72, 3) := by decide +kernel
theorem dX10_game_26 : decode cX10_game 26 = .ok (.ifCond .eq 26, 3) := by decide +kernel
theorem dX10_game_29 : decode cX10_game 29 = .ok (.iload_n 3, 1) := by decide +kernel
theorem dX10_game_30 : decode cX10_game 30 = .ok (.i2l, 1) := by decide +kernel
theorem dX10_game_31 : decode cX10_game 31 = .ok (.lconst 0, 1) := by decide +kernel
theorem dX10_game_32 : decode cX10_game 32 = .ok (.ldc2_w 262, 3) := by decide +kernel
theorem dX10_game_35 : decode cX10_game 35 = .ok (.invokestatic 72, 3) := by decide +kernel
theorem dX10_game_38 : decode cX10_game 38 = .ok (.ifCond .eq 14, 3) := by decide +kernel
theorem dX10_game_41 : decode cX10_game 41 = .ok (.iload 4, 2) := by decide +kernel
theorem dX10_game_43 : decode cX10_game 43 = .ok (.i2l, 1) := by decide +kernel
theorem dX10_game_44 : decode cX10_game 44 = .ok (.lconst 0, 1) := by decide +kernel
theorem dX10_game_45 : decode cX10_game 45 = .ok (.lconst 1, 1) := by decide +kernel
theorem dX10_game_46 : decode cX10_game 46 = .ok (.invokestatic 72, 3) := by decide +kernel
theorem dX10_game_49 : decode cX10_game 49 = .ok (.ifCond .ne 6, 3) := by decide +kernel
theorem dX10_game_52 : decode cX10_game 52 = .ok (.ldc 82, 2) := by decide +kernel
theorem dX10_game_54 : decode cX10_game 54 = .ok (.ireturn, 1) := by decide +kernel
theorem dX10_game_55 : decode cX10_game 55 = .ok (.iconst 0, 1) := by decide +kernel
theorem dX10_game_56 : decode cX10_game 56 = .ok (.istore 5, 2) := by decide +kernel
theorem dX10_game_58 : decode cX10_game 58 = .ok (.iload 5, 2) := by decide +kernel
theorem dX10_game_60 : decode cX10_game 60 = .ok (.bipush 100, 2) := by decide +kernel
theorem dX10_game_62 : decode cX10_game 62 = .ok (.if_icmp .ge 17, 3) := by decide +kernel
theorem dX10_game_65 : decode cX10_game 65 = .ok (.aload_n 0, 1) := by decide +kernel
theorem dX10_game_66 : decode cX10_game 66 = .ok (.getfield 43, 3) := by decide +kernel
theorem dX10_game_69 : decode cX10_game 69 = .ok (.iload 5, 2) := by decide +kernel
theorem dX10_game_71 : decode cX10_game 71 = .ok (.iconst 0, 1) := by decide +kernel
theorem dX10_game_72 : decode cX10_game 72 = .ok (.iastore, 1) := by decide +kernel
theorem dX10_game_73 : decode cX10_game 73 = .ok (.iinc 5 1, 3) := by decide +kernel
theorem dX10_game_76 : decode cX10_game 76 = .ok (.goto (-18), 3) := by decide +kernel
theorem dX10_game_79 : decode cX10_game 79 = .ok (.aload_n 0, 1) := by decide +kernel
theorem dX10_game_80 : decode cX10_game 80 = .ok (.ldc 98, 2) := by decide +kernel
theorem dX10_game_82 : decode cX10_game 82 = .ok (.putfield 292, 3) := by decide +kernel
theorem dX10_game_85 : decode cX10_game 85 = .ok (.ldc 98, 2) := by decide +kernel
theorem dX10_game_87 : decode cX10_game 87 = .ok (.istore 5, 2) := by decide +kernel
theorem dX10_game_89 : decode cX10_game 89 = .ok (.iconst 0, 1) := by decide +kernel
theorem dX10_game_90 : decode cX10_game 90 = .ok (.istore 6, 2) := by decide +kernel
theorem dX10_game_92 : decode cX10_game 92 = .ok (.iload 6, 2) := by decide +kernel
theorem dX10_game_94 : decode cX10_game 94 = .ok (.iload_n 3, 1) := by decide +kernel
theorem dX10_game_95 : decode cX10_game 95 = .ok (.if_icmp .ge 98, 3) := by decide +kernel
theorem dX10_game_98 : decode cX10_game 98 = .ok (.iconst 0, 1) := by decide +kernel
theorem dX10_game_99 : decode cX10_game 99 = .ok (.istore 7, 2) := by decide +kernel
theorem dX10_game_101 : decode cX10_game 101 = .ok (.iload 7, 2) := by decide +kernel
theorem dX10_game_103 : decode cX10_game 103 = .ok (.bipush 100, 2) := by decide +kernel
theorem dX10_game_105 : decode cX10_game 105 = .ok (.if_icmp .ge 23, 3) := by decide +kernel
theorem dX10_game_108 : decode cX10_game 108 = .ok (.aload_n 0, 1) := by decide +kernel
theorem dX10_game_109 : decode cX10_game 109 = .ok (.getfield 46, 3) := by decide +kernel
theorem dX10_game_112 : decode cX10_game 112 = .ok (.iload 7, 2) := by decide +kernel
theorem dX10_game_114 : decode cX10_game 114 = .ok (.aload_n 0, 1) := by decide +kernel
theorem dX10_game_115 : decode cX10_game 115 = .ok (.getfield 43, 3) := by decide +kernel
theorem dX10_game_118 : decode cX10_game 118 = .ok (.iload 7, 2) := by decide +kernel
theorem dX10_game_120 : decode cX10_game 120 = .ok (.iaload, 1) := by decide +kernel
theorem dX10_game_121 : decode cX10_game 121 = .ok (.iastore, 1) := by decide +kernel
theorem dX10_game_122 : decode cX10_game 122 = .ok (.iinc 7 1, 3) := by decide +kernel
theorem dX10_game_125 : decode cX10_game 125 = .ok (.goto (-24), 3) := by decide +kernel
theorem dX10_game_128 : decode cX10_game 128 = .ok (.iconst 0, 1) := by decide +kernel
theorem dX10_game_129 : decode cX10_game 129 = .ok (.istore 7, 2) := by decide +kernel
theorem dX10_game_131 : decode cX10_game 131 = .ok (.iload 7, 2) := by decide +kernel
theorem dX10_game_133 : decode cX10_game 133 = .ok (.bipush 100, 2) := by decide +kernel
theorem dX10_game_135 : decode cX10_game 135 = .ok (.if_icmp .ge 52, 3) := by decide +kernel
theorem dX10_game_138 : decode cX10_game 138 = .ok (.aload_n 0, 1) := by decide +kernel
theorem dX10_game_139 : decode cX10_game 139 = .ok (.getfield 43, 3) := by decide +kernel
theorem dX10_game_142 : decode cX10_game 142 = .ok (.iload 7, 2) := by decide +kernel
theorem dX10_game_144 : decode cX10_game 144 = .ok (.aload_n 0, 1) := by decide +kernel
theorem dX10_game_145 : decode cX10_game 145 = .ok (.iload 7, 2) := by decide +kernel
theorem dX10_game_147 : decode cX10_game 147 = .ok (.bipush 10, 2) := by decide +kernel
theorem dX10_game_149 : decode cX10_game 149 = .ok (.idiv, 1) := by decide +kernel
theorem dX10_game_150 : decode cX10_game 150 = .ok (.iload 7, 2) := by decide +kernel
theorem dX10_game_152 : decode cX10_game 152 = .ok (.bipush 10, 2) := by decide +kernel
theorem dX10_game_154 : decode cX10_game 154 = .ok (.irem, 1) := by decide +kernel
theorem dX10_game_155 : decode cX10_game 155 = .ok (.invokevirtual 300, 3) := by decide +kernel
theorem dX10_game_158 : decode cX10_game 158 = .ok (.iastore, 1) := by decide +kernel
theorem dX10_game_159 : decode cX10_game 159 = .ok (.iload 7, 2) := by decide +kernel
theorem dX10_game_161 : decode cX10_game 161 = .ok (.bipush 10, 2) := by decide +kernel
theorem dX10_game_163 : decode cX10_game 163 = .ok (.iload_n 1, 1) := by decide +kernel
theorem dX10_game_164 : decode cX10_game 164 = .ok (.imul, 1) := by decide +kernel
theorem dX10_game_165 : decode cX10_game 165 = .ok (.iload_n 2, 1) := by decide +kernel
theorem dX10_game_166 : decode cX10_game 166 = .ok (.iadd, 1) := by decide +kernel
theorem dX10_game_167 : decode cX10_game 167 = .ok (.if_icmp .ne 10, 3) := by decide +kernel
theorem dX10_game_170 : decode cX10_game 170 = .ok (.aload_n 0, 1) := by decide +kernel
theorem dX10_game_171 : decode cX10_game 171 = .ok (.getfield 292, 3) := by decide +kernel
theorem dX10_game_174 : decode cX10_game 174 = .ok (.goto 5, 3) := by decide +kernel
theorem dX10_game_177 : decode cX10_game 177 = .ok (.iload 5, 2) := by decide +kernel
theorem dX10_game_179 : decode cX10_game 179 = .ok (.istore 5, 2) := by decide +kernel
theorem dX10_game_181 : decode cX10_game 181 = .ok (.iinc 7 1, 3) := by decide +kernel
theorem dX10_game_184 : decode cX10_game 184 = .ok (.goto (-53), 3) := by decide +kernel
theorem dX10_game_187 : decode cX10_game 187 = .ok (.iinc 6 1, 3) := by decide +kernel
theorem dX10_game_190 : decode cX10_game 190 = .ok (.goto (-98), 3) := by decide +kernel
theorem dX10_game_193 : decode cX10_game 193 = .ok (.iload 4, 2) := by decide +kernel
theorem dX10_game_195 : decode cX10_game 195 = .ok (.ifCond .ne 17, 3) := by decide +kernel
theorem dX10_game_198 : decode cX10_game 198 = .ok (.aload_n 0, 1) := by decide +kernel
theorem dX10_game_199 : decode cX10_game 199 = .ok (.getfield 43, 3) := by decide +kernel
theorem dX10_game_202 : decode cX10_game 202 = .ok (.bipush 10, 2) := by decide +kernel
theorem dX10_game_204 : decode cX10_game 204 = .ok (.iload_n 1, 1) := by decide +kernel
theorem dX10_game_205 : decode cX10_game 205 = .ok (.imul, 1) := by decide +kernel
theorem dX10_game_206 : decode cX10_game 206 = .ok (.iload_n 2, 1) := by decide +kernel
theorem dX10_game_207 : decode cX10_game 207 = .ok (.iadd, 1) := by decide +kernel
theorem dX10_game_208 : decode cX10_game 208 = .ok (.iaload, 1) := by decide +kernel
theorem dX10_game_209 : decode cX10_game 209 = .ok (.goto 5, 3) := by decide +kernel
theorem dX10_game_212 : decode cX10_game 212 = .ok (.iload 5, 2) := by decide +kernel
theorem dX10_game_214 : decode cX10_game 214 = .ok (.ireturn, 1) := by decide +kernel
theorem dX10_left_0 : decode cX10_left 0 = .ok (.aload_n 0, 1) := by decide +kernel
theorem dX10_left_1 : decode cX10_left 1 = .ok (.iconst 0, 1) := by decide +kernel
theorem dX10_left_2 : decode cX10_left 2 = .ok (.putfield 62, 3) := by decide +kernel
theorem dX10_left_5 : decode cX10_left 5 = .ok (.iload_n 1, 1) := by decide +kernel
theorem dX10_left_6 : decode cX10_left 6 = .ok (.invokestatic 76, 3) := by decide +kernel
theorem dX10_left_9 : decode cX10_left 9 = .ok (.ifCond .eq 58, 3) := by decide +kernel
theorem dX10_left_12 : decode cX10_left 12 = .ok (.iload_n 3, 1) := by decide +kernel
theorem dX10_left_13 : decode cX10_left 13 = .ok (.i2l, 1) := by decide +kernel
theorem dX10_left_14 : decode cX10_left 14 = .ok (.lconst 1, 1) := by decide +kernel
theorem dX10_left_15 : decode cX10_left 15 = .ok (.ldc2_w 262, 3) := by decide +kernel
theorem dX10_left_18 : decode cX10_left 18 = .ok (.invokestatic 72, 3) := by decide +kernel
theorem dX10_left_21 : decode cX10_left 21 = .ok (.ifCond .eq 46, 3) := by decide +kernel
theorem dX10_left_24 : decode cX10_left 24 = .ok (.iload 4, 2) := by decide +kernel
theorem dX10_left_26 : decode cX10_left 26 = .ok (.i2l, 1) := by decide +kernel
theorem dX10_left_27 : decode cX10_left 27 = .ok (.lconst 1, 1) := by decide +kernel
theorem dX10_left_28 : decode cX10_left 28 = .ok (.ldc2_w 303, 3) := by decide +kernel
theorem dX10_left_31 : decode cX10_left 31 = .ok (.invokestatic 72, 3) := by decide +kernel
theorem dX10_left_34 : decode cX10_left 34 = .ok (.ifCond .eq 33, 3) := by decide +kernel
theorem dX10_left_37 : decode cX10_left 37 = .ok (.iload 5, 2) := by decide +kernel
theorem dX10_left_39 : decode cX10_left 39 = .ok (.i2l, 1) := by decide +kernel
theorem dX10_left_40 : decode cX10_left 40 = .ok (.iload 4, 2) := by decide +kernel
theorem dX10_left_42 : decode cX10_left 42 = .ok (.iconst 1, 1) := by decide +kernel
theorem dX10_left_43 : decode cX10_left 43 = .ok (.iadd, 1) := by decide +kernel
theorem dX10_left_44 : decode cX10_left 44 = .ok (.i2l, 1) := by decide +kernel
theorem dX10_left_45 : decode cX10_left 45 = .ok (.ldc2_w 305, 3) := by decide +kernel
theorem dX10_left_48 : decode cX10_left 48 = .ok (.invokestatic 72, 3) := by decide +kernel
theorem dX10_left_51 : decode cX10_left 51 = .ok (.ifCond .eq 16, 3) := by decide +kernel
theorem dX10_left_54 : decode cX10_left 54 = .ok (.iload 6, 2) := by decide +kernel
theorem dX10_left_56 : decode cX10_left 56 = .ok (.i2l, 1) := by decide +kernel
theorem dX10_left_57 : decode cX10_left 57 = .ok (.lconst 0, 1) := by decide +kernel
theorem dX10_left_58 : decode cX10_left 58 = .ok (.ldc2_w 80, 3) := by decide +kernel
theorem dX10_left_61 : decode cX10_left 61 = .ok (.invokestatic 72, 3) := by decide +kernel
theorem dX10_left_64 : decode cX10_left 64 = .ok (.ifCond .ne 6, 3) := by decide +kernel
theorem dX10_left_67 : decode cX10_left 67 = .ok (.ldc 82, 2) := by decide +kernel
theorem dX10_left_69 : decode cX10_left 69 = .ok (.ireturn, 1) := by decide +kernel
theorem dX10_left_70 : decode cX10_left 70 = .ok (.aload_n 0, 1) := by decide +kernel
theorem dX10_left_71 : decode cX10_left 71 = .ok (.getfield 7, 3) := by decide +kernel
theorem dX10_left_74 : decode cX10_left 74 = .ok (.iload_n 1, 1) := by decide +kernel
theorem dX10_left_75 : decode cX10_left 75 = .ok (.iaload, 1) := by decide +kernel
theorem dX10_left_76 : decode cX10_left 76 = .ok (.ifCond .ge 9, 3) := by decide +kernel
theorem dX10_left_79 : decode cX10_left 79 = .ok (.aload_n 0, 1) := by decide +kernel
theorem dX10_left_80 : decode cX10_left 80 = .ok (.iconst 1, 1) := by decide +kernel
theorem dX10_left_81 : decode cX10_left 81 = .ok (.invokevirtual 83, 3) := by decide +kernel
theorem dX10_left_84 : decode cX10_left 84 = .ok (.ireturn, 1) := by decide +kernel
theorem dX10_left_85 : decode cX10_left 85 = .ok (.iload_n 2, 1) := by decide +kernel
theorem dX10_left_86 : decode cX10_left 86 = .ok (.ifCond .lt 19, 3) := by decide +kernel
theorem dX10_left_89 : decode cX10_left 89 = .ok (.iload_n 2, 1) := by decide +kernel
theorem dX10_left_90 : decode cX10_left 90 = .ok (.i2l, 1) := by decide +kernel
theorem dX10_left_91 : decode cX10_left 91 = .ok (.iload_n 3, 1) := by decide +kernel
theorem dX10_left_92 : decode cX10_left 92 = .ok (.i2l, 1) := by decide +kernel
theorem dX10_left_93 : decode cX10_left 93 = .ok (.ladd, 1) := by decide +kernel
theorem dX10_left_94 : decode cX10_left 94 = .ok (.aload_n 0, 1) := by decide +kernel
theorem dX10_left_95 : decode cX10_left 95 = .ok (.getfield 13, 3) := by decide +kernel
theorem dX10_left_98 : decode cX10_left 98 = .ok (.iload_n 1, 1) := by decide +kernel
theorem dX10_left_99 : decode cX10_left 99 = .ok (.iaload, 1) := by decide +kernel
theorem dX10_left_100 : decode cX10_left 100 = .ok (.i2l, 1) := by decide +kernel
theorem dX10_left_101 : decode cX10_left 101 = .ok (.lcmp, 1) := by decide +kernel
theorem dX10_left_102 : decode cX10_left 102 = .ok (.ifCond .le 9, 3) := by decide +kernel
theorem dX10_left_105 : decode cX10_left 105 = .ok (.aload_n 0, 1) := by decide +kernel
theorem dX10_left_106 : decode cX10_left 106 = .ok (.iconst 2, 1) := by decide +kernel
theorem dX10_left_107 : decode cX10_left 107 = .ok (.invokevirtual 83, 3) := by decide +kernel
theorem dX10_left_110 : decode cX10_left 110 = .ok (.ireturn, 1) := by decide +kernel
theorem dX10_left_111 : decode cX10_left 111 = .ok (.aload_n 0, 1) := by decide +kernel
theorem dX10_left_112 : decode cX10_left 112 = .ok (.iconst 0, 1) := by decide +kernel
theorem dX10_left_113 : decode cX10_left 113 = .ok (.putfield 66, 3) := by decide +kernel
theorem dX10_left_116 : decode cX10_left 116 = .ok (.iconst 0, 1) := by decide +kernel
theorem dX10_left_117 : decode cX10_left 117 = .ok (.istore 7, 2) := by decide +kernel
theorem dX10_left_119 : decode cX10_left 119 = .ok (.ldc 98, 2) := by decide +kernel
theorem dX10_left_121 : decode cX10_left 121 = .ok (.istore 8, 2) := by decide +kernel
theorem dX10_left_123 : decode cX10_left 123 = .ok (.ldc 98, 2) := by decide +kernel
theorem dX10_left_125 : decode cX10_left 125 = .ok (.istore 9, 2) := by decide +kernel
theorem dX10_left_127 : decode cX10_left 127 = .ok (.iconst 0, 1) := by decide +kernel
theorem dX10_left_128 : decode cX10_left 128 = .ok (.istore 10, 2) := by decide +kernel
theorem dX10_left_130 : decode cX10_left 130 = .ok (.iload 10, 2) := by decide +kernel
theorem dX10_left_132 : decode cX10_left 132 = .ok (.bipush 10, 2) := by decide +kernel
theorem dX10_left_134 : decode cX10_left 134 = .ok (.if_icmp .ge 157, 3) := by decide +kernel
theorem dX10_left_137 : decode cX10_left 137 = .ok (.iload 10, 2) := by decide +kernel
theorem dX10_left_139 : decode cX10_left 139 = .ok (.istore 11, 2) := by decide +kernel
theorem dX10_left_141 : decode cX10_left 141 = .ok (.iconst 0, 1) := by decide +kernel
theorem dX10_left_142 : decode cX10_left 142 = .ok (.istore 12, 2) := by decide +kernel
theorem dX10_left_144 : decode cX10_left 144 = .ok (.iload 12, 2) := by decide +kernel
theorem dX10_left_146 : decode cX10_left 146 = .ok (.iload_n 3, 1) := by decide +kernel
theorem dX10_left_147 : decode cX10_left 147 = .ok (.if_icmp .ge 85, 3) := by decide +kernel
theorem dX10_left_150 : decode cX10_left 150 = .ok (.iload 11, 2) := by decide +kernel
theorem dX10_left_152 : decode cX10_left 152 = .ok (.ifCond .lt 80, 3) := by decide +kernel
theorem dX10_left_155 : decode cX10_left 155 = .ok (.aload_n 0, 1) := by decide +kernel
theorem dX10_left_156 : decode cX10_left 156 = .ok (.getfield 16, 3) := by decide +kernel
theorem dX10_left_159 : decode cX10_left 159 = .ok (.bipush 40, 2) := by decide +kernel
theorem dX10_left_161 : decode cX10_left 161 = .ok (.iload_n 1, 1) := by decide +kernel
theorem dX10_left_162 : decode cX10_left 162 = .ok (.imul, 1) := by decide +kernel
theorem dX10_left_163 : decode cX10_left 163 = .ok (.iload_n 2, 1) := by decide +kernel
theorem dX10_left_164 : decode cX10_left 164 = .ok (.iadd, 1) := by decide +kernel
theorem dX10_left_165 : decode cX10_left 165 = .ok (.iload 12, 2) := by decide +kernel
theorem dX10_left_167 : decode cX10_left 167 = .ok (.iadd, 1) := by decide +kernel
theorem dX10_left_168 : decode cX10_left 168 = .ok (.iaload, 1) := by decide +kernel
theorem dX10_left_169 : decode cX10_left 169 = .ok (.iload 4, 2) := by decide +kernel
theorem dX10_left_171 : decode cX10_left 171 = .ok (.iload 5, 2) := by decide +kernel
theorem dX10_left_173 : decode cX10_left 173 = .ok (.iadd, 1) := by decide +kernel
theorem dX10_left_174 : decode cX10_left 174 = .ok (.iconst 2, 1) := by decide +kernel
theorem dX10_left_175 : decode cX10_left 175 = .ok (.idiv, 1) := by decide +kernel
theorem dX10_left_176 : decode cX10_left 176 = .ok (.if_icmp .lt 7, 3) := by decide +kernel
theorem dX10_left_179 : decode cX10_left 179 = .ok (.iconst 1, 1) := by decide +kernel
theorem dX10_left_180 : decode cX10_left 180 = .ok (.goto 4, 3) := by decide +kernel
theorem dX10_left_183 : decode cX10_left 183 = .ok (.iconst 0, 1) := by decide +kernel
theorem dX10_left_184 : decode cX10_left 184 = .ok (.istore 13, 2) := by decide +kernel
theorem dX10_left_186 : decode cX10_left 186 = .ok (.iload 13, 2) := by decide +kernel
theorem dX10_left_188 : decode cX10_left 188 = .ok (.ifCond .eq 20, 3) := by decide +kernel
theorem dX10_left_191 : decode cX10_left 191 = .ok (.iload 11, 2) := by decide +kernel
theorem dX10_left_193 : decode cX10_left 193 = .ok (.iconst 2, 1) := by decide +kernel
theorem dX10_left_194 : decode cX10_left 194 = .ok (.if_icmp .ge 7, 3) := by decide +kernel
theorem dX10_left_197 : decode cX10_left 197 = .ok (.iconst (-1), 1) := by decide +kernel
theorem dX10_left_198 : decode cX10_left 198 = .ok (.goto 26, 3) := by decide +kernel
theorem dX10_left_201 : decode cX10_left 201 = .ok (.iload 11, 2) := by decide +kernel
theorem dX10_left_203 : decode cX10_left 203 = .ok (.iconst 2, 1) := by decide +kernel
theorem dX10_left_204 : decode cX10_left 204 = .ok (.isub, 1) := by decide +kernel
theorem dX10_left_205 : decode cX10_left 205 = .ok (.goto 19, 3) := by decide +kernel
theorem dX10_left_208 : decode cX10_left 208 = .ok (.iload 11, 2) := by decide +kernel
theorem dX10_left_210 : decode cX10_left 210 = .ok (.bipush 9, 2) := by decide +kernel
theorem dX10_left_212 : decode cX10_left 212 = .ok (.if_icmp .ge 10, 3) := by decide +kernel
theorem dX10_left_215 : decode cX10_left 215 = .ok (.iload 11, 2) := by decide +kernel
theorem dX10_left_217 : decode cX10_left 217 = .ok (.iconst 1, 1) := by decide +kernel
theorem dX10_left_218 : decode cX10_left 218 = .ok (.iadd, 1) := by decide +kernel
theorem dX10_left_219 : decode cX10_left 219 = .ok (.goto 5, 3) := by decide +kernel
theorem dX10_left_222 : decode cX10_left 222 = .ok (.bipush 9, 2) := by decide +kernel
theorem dX10_left_224 : decode cX10_left 224 = .ok (.istore 11, 2) := by decide +kernel
theorem dX10_left_226 : decode cX10_left 226 = .ok (.iinc 12 1, 3) := by decide +kernel
theorem dX10_left_229 : decode cX10_left 229 = .ok (.goto (-85), 3) := by decide +kernel
theorem dX10_left_232 : decode cX10_left 232 = .ok (.iload 11, 2) := by decide +kernel
theorem dX10_left_234 : decode cX10_left 234 = .ok (.ifCond .lt 51, 3) := by decide +kernel
theorem dX10_left_237 : decode cX10_left 237 = .ok (.iload 7, 2) := by decide +kernel
theorem dX10_left_239 : decode cX10_left 239 = .ok (.iconst 1, 1) := by decide +kernel
theorem dX10_left_240 : decode cX10_left 240 = .ok (.iload 10, 2) := by decide +kernel
theorem dX10_left_242 : decode cX10_left 242 = .ok (.ishl, 1) := by decide +kernel
theorem dX10_left_243 : decode cX10_left 243 = .ok (.ior, 1) := by decide +kernel
theorem dX10_left_244 : decode cX10_left 244 = .ok (.istore 7, 2) := by decide +kernel
theorem dX10_left_246 : decode cX10_left 246 = .ok (.iload 8, 2) := by decide +kernel
theorem dX10_left_248 : decode cX10_left 248 = .ok (.ldc 98, 2) := by decide +kernel
theorem dX10_left_250 : decode cX10_left 250 = .ok (.if_icmp .eq 10, 3) := by decide +kernel
theorem dX10_left_253 : decode cX10_left 253 = .ok (.iload 11, 2) := by decide +kernel
theorem dX10_left_255 : decode cX10_left 255 = .ok (.iload 8, 2) := by decide +kernel
theorem dX10_left_257 : decode cX10_left 257 = .ok (.if_icmp .ge 8, 3) := by decide +kernel
theorem dX10_left_260 : decode cX10_left 260 = .ok (.iload 11, 2) := by decide +kernel
theorem dX10_left_262 : decode cX10_left 262 = .ok (.goto 5, 3) := by decide +kernel
theorem dX10_left_265 : decode cX10_left 265 = .ok (.iload 8, 2) := by decide +kernel
theorem dX10_left_267 : decode cX10_left 267 = .ok (.istore 8, 2) := by decide +kernel
theorem dX10_left_269 : decode cX10_left 269 = .ok (.iload 11, 2) := by decide +kernel
theorem dX10_left_271 : decode cX10_left 271 = .ok (.iload 9, 2) := by decide +kernel
theorem dX10_left_273 : decode cX10_left 273 = .ok (.if_icmp .le 8, 3) := by decide +kernel
theorem dX10_left_276 : decode cX10_left 276 = .ok (.iload 11, 2) := by decide +kernel
theorem dX10_left_278 : decode cX10_left 278 = .ok (.goto 5, 3) := by decide +kernel
theorem dX10_left_281 : decode cX10_left 281 = .ok (.iload 9, 2) := by decide +kernel
theorem dX10_left_283 : decode cX10_left 283 = .ok (.istore 9, 2) := by decide +kernel
theorem dX10_left_285 : decode cX10_left 285 = .ok (.iinc 10 1, 3) := by decide +kernel
theorem dX10_left_288 : decode cX10_left 288 = .ok (.goto (-158), 3) := by decide +kernel
theorem dX10_left_291 : decode cX10_left 291 = .ok (.iload 6, 2) := by decide +kernel
theorem dX10_left_293 : decode cX10_left 293 = .ok (.ifCond .ne 8, 3) := by decide +kernel
theorem dX10_left_296 : decode cX10_left 296 = .ok (.iload 7, 2) := by decide +kernel
theorem dX10_left_298 : decode cX10_left 298 = .ok (.goto 16, 3) := by decide +kernel
theorem dX10_left_301 : decode cX10_left 301 = .ok (.iload 6, 2) := by decide +kernel
theorem dX10_left_303 : decode cX10_left 303 = .ok (.iconst 1, 1) := by decide +kernel
theorem dX10_left_304 : decode cX10_left 304 = .ok (.if_icmp .ne 8, 3) := by decide +kernel
theorem dX10_left_307 : decode cX10_left 307 = .ok (.iload 8, 2) := by decide +kernel
theorem dX10_left_309 : decode cX10_left 309 = .ok (.goto 5, 3) := by decide +kernel
theorem dX10_left_312 : decode cX10_left 312 = .ok (.iload 9, 2) := by decide +kernel
theorem dX10_left_314 : decode cX10_left 314 = .ok (.ireturn, 1) := by decide +kernel
theorem dX10_read_0 : decode cX10_read 0 = .ok (.aload_n 0, 1) := by decide +kernel
theorem dX10_read_1 : decode cX10_read 1 = .ok (.iconst 0, 1) := by decide +kernel
theorem dX10_read_2 : decode cX10_read 2 = .ok (.putfield 62, 3) := by decide +kernel
theorem dX10_read_5 : decode cX10_read 5 = .ok (.iload_n 1, 1) := by decide +kernel
theorem dX10_read_6 : decode cX10_read 6 = .ok (.invokestatic 217, 3) := by decide +kernel
theorem dX10_read_9 : decode cX10_read 9 = .ok (.ifCond .ne 6, 3) := by decide +kernel
theorem dX10_read_12 : decode cX10_read 12 = .ok (.ldc 82, 2) := by decide +kernel
theorem dX10_read_14 : decode cX10_read 14 = .ok (.ireturn, 1) := by decide +kernel
theorem dX10_read_15 : decode cX10_read 15 = .ok (.aload_n 0, 1) := by decide +kernel
theorem dX10_read_16 : decode cX10_read 16 = .ok (.getfield 25, 3) := by decide +kernel
theorem dX10_read_19 : decode cX10_read 19 = .ok (.iconst 2, 1) := by decide +kernel
theorem dX10_read_20 : decode cX10_read 20 = .ok (.iaload, 1) := by decide +kernel
theorem dX10_read_21 : decode cX10_read 21 = .ok (.ifCond .ne 6, 3) := by decide +kernel
theorem dX10_read_24 : decode cX10_read 24 = .ok (.ldc 230, 2) := by decide +kernel
theorem dX10_read_26 : decode cX10_read 26 = .ok (.ireturn, 1) := by decide +kernel
theorem dX10_read_27 : decode cX10_read 27 = .ok (.iconst 1, 1) := by decide +kernel
theorem dX10_read_28 : decode cX10_read 28 = .ok (.istore_n 2, 1) := by decide +kernel
theorem dX10_read_29 : decode cX10_read 29 = .ok (.iload_n 2, 1) := by decide +kernel
theorem dX10_read_30 : decode cX10_read 30 = .ok (.bipush 30, 2) := by decide +kernel
theorem dX10_read_32 : decode cX10_read 32 = .ok (.if_icmp .gt 92, 3) := by decide +kernel
theorem dX10_read_35 : decode cX10_read 35 = .ok (.iload_n 2, 1) := by decide +kernel
theorem dX10_read_36 : decode cX10_read 36 = .ok (.aload_n 0, 1) := by decide +kernel
theorem dX10_read_37 : decode cX10_read 37 = .ok (.getfield 25, 3) := by decide +kernel
theorem dX10_read_40 : decode cX10_read 40 = .ok (.bipush 9, 2) := by decide +kernel
theorem dX10_read_42 : decode cX10_read 42 = .ok (.iaload, 1) := by decide +kernel
theorem dX10_read_43 : decode cX10_read 43 = .ok (.if_icmp .ge 81, 3) := by decide +kernel
theorem dX10_read_46 : decode cX10_read 46 = .ok (.iconst 1, 1) := by decide +kernel
theorem dX10_read_47 : decode cX10_read 47 = .ok (.istore_n 3, 1) := by decide +kernel
theorem dX10_read_48 : decode cX10_read 48 = .ok (.iload_n 2, 1) := by decide +kernel
theorem dX10_read_49 : decode cX10_read 49 = .ok (.istore 4, 2) := by decide +kernel
theorem dX10_read_51 : decode cX10_read 51 = .ok (.iload 4, 2) := by decide +kernel
theorem dX10_read_53 : decode cX10_read 53 = .ok (.aload_n 0, 1) := by decide +kernel
theorem dX10_read_54 : decode cX10_read 54 = .ok (.getfield 25, 3) := by decide +kernel
theorem dX10_read_57 : decode cX10_read 57 = .ok (.bipush 9, 2) := by decide +kernel
theorem dX10_read_59 : decode cX10_read 59 = .ok (.iaload, 1) := by decide +kernel
theorem dX10_read_60 : decode cX10_read 60 = .ok (.if_icmp .ge 52, 3) := by decide +kernel
theorem dX10_read_63 : decode cX10_read 63 = .ok (.iload_n 3, 1) := by decide +kernel
theorem dX10_read_64 : decode cX10_read 64 = .ok (.ifCond .eq 40, 3) := by decide +kernel
theorem dX10_read_67 : decode cX10_read 67 = .ok (.aload_n 0, 1) := by decide +kernel
theorem dX10_read_68 : decode cX10_read 68 = .ok (.getfield 25, 3) := by decide +kernel
theorem dX10_read_71 : decode cX10_read 71 = .ok (.bipush 70, 2) := by decide +kernel
theorem dX10_read_73 : decode cX10_read 73 = .ok (.iconst 5, 1) := by decide +kernel
theorem dX10_read_74 : decode cX10_read 74 = .ok (.iload 4, 2) := by decide +kernel
theorem dX10_read_76 : decode cX10_read 76 = .ok (.imul, 1) := by decide +kernel
theorem dX10_read_77 : decode cX10_read 77 = .ok (.iadd, 1) := by decide +kernel
theorem dX10_read_78 : decode cX10_read 78 = .ok (.iload_n 1, 1) := by decide +kernel
theorem dX10_read_79 : decode cX10_read 79 = .ok (.iadd, 1) := by decide +kernel
theorem dX10_read_80 : decode cX10_read 80 = .ok (.iaload, 1) := by decide +kernel
theorem dX10_read_81 : decode cX10_read 81 = .ok (.aload_n 0, 1) := by decide +kernel
theorem dX10_read_82 : decode cX10_read 82 = .ok (.getfield 25, 3) := by decide +kernel
theorem dX10_read_85 : decode cX10_read 85 = .ok (.bipush 70, 2) := by decide +kernel
theorem dX10_read_87 : decode cX10_read 87 = .ok (.iconst 5, 1) := by decide +kernel
theorem dX10_read_88 : decode cX10_read 88 = .ok (.iload 4, 2) := by decide +kernel
theorem dX10_read_90 : decode cX10_read 90 = .ok (.iload_n 2, 1) := by decide +kernel
theorem dX10_read_91 : decode cX10_read 91 = .ok (.isub, 1) := by decide +kernel
theorem dX10_read_92 : decode cX10_read 92 = .ok (.imul, 1) := by decide +kernel
theorem dX10_read_93 : decode cX10_read 93 = .ok (.iadd, 1) := by decide +kernel
theorem dX10_read_94 : decode cX10_read 94 = .ok (.iload_n 1, 1) := by decide +kernel
theorem dX10_read_95 : decode cX10_read 95 = .ok (.iadd, 1) := by decide +kernel
theorem dX10_read_96 : decode cX10_read 96 = .ok (.iaload, 1) := by decide +kernel
theorem dX10_read_97 : decode cX10_read 97 = .ok (.if_icmp .ne 7, 3) := by decide +kernel
theorem dX10_read_100 : decode cX10_read 100 = .ok (.iconst 1, 1) := by decide +kernel
theorem dX10_read_101 : decode cX10_read 101 = .ok (.goto 4, 3) := by decide +kernel
theorem dX10_read_104 : decode cX10_read 104 = .ok (.iconst 0, 1) := by decide +kernel
theorem dX10_read_105 : decode cX10_read 105 = .ok (.istore_n 3, 1) := by decide +kernel
theorem dX10_read_106 : decode cX10_read 106 = .ok (.iinc 4 1, 3) := by decide +kernel
theorem dX10_read_109 : decode cX10_read 109 = .ok (.goto (-58), 3) := by decide +kernel
theorem dX10_read_112 : decode cX10_read 112 = .ok (.iload_n 3, 1) := by decide +kernel
theorem dX10_read_113 : decode cX10_read 113 = .ok (.ifCond .eq 5, 3) := by decide +kernel
theorem dX10_read_116 : decode cX10_read 116 = .ok (.iload_n 2, 1) := by decide +kernel
theorem dX10_read_117 : decode cX10_read 117 = .ok (.ireturn, 1) := by decide +kernel
theorem dX10_read_118 : decode cX10_read 118 = .ok (.iinc 2 1, 3) := by decide +kernel
theorem dX10_read_121 : decode cX10_read 121 = .ok (.goto (-92), 3) := by decide +kernel
theorem dX10_read_124 : decode cX10_read 124 = .ok (.ldc 98, 2) := by decide +kernel
theorem dX10_read_126 : decode cX10_read 126 = .ok (.ireturn, 1) := by decide +kernel
theorem dX10_image_0 : decode cX10_image 0 = .ok (.aload_n 0, 1) := by decide +kernel
theorem dX10_image_1 : decode cX10_image 1 = .ok (.iconst 0, 1) := by decide +kernel
theorem dX10_image_2 : decode cX10_image 2 = .ok (.putfield 62, 3) := by decide +kernel
theorem dX10_image_5 : decode cX10_image 5 = .ok (.iload_n 1, 1) := by decide +kernel
theorem dX10_image_6 : decode cX10_image 6 = .ok (.i2l, 1) := by decide +kernel
theorem dX10_image_7 : decode cX10_image 7 = .ok (.lconst 0, 1) := by decide +kernel
theorem dX10_image_8 : decode cX10_image 8 = .ok (.lconst 1, 1) := by decide +kernel
theorem dX10_image_9 : decode cX10_image 9 = .ok (.invokestatic 72, 3) := by decide +kernel
theorem dX10_image_12 : decode cX10_image 12 = .ok (.ifCond .ne 6, 3) := by decide +kernel
theorem dX10_image_15 : decode cX10_image 15 = .ok (.ldc 82, 2) := by decide +kernel
theorem dX10_image_17 : decode cX10_image 17 = .ok (.ireturn, 1) := by decide +kernel
theorem dX10_image_18 : decode cX10_image 18 = .ok (.aload_n 0, 1) := by decide +kernel
theorem dX10_image_19 : decode cX10_image 19 = .ok (.getfield 213, 3) := by decide +kernel
theorem dX10_image_22 : decode cX10_image 22 = .ok (.ifCond .ne 6, 3) := by decide +kernel
theorem dX10_image_25 : decode cX10_image 25 = .ok (.ldc 230, 2) := by decide +kernel
theorem dX10_image_27 : decode cX10_image 27 = .ok (.ireturn, 1) := by decide +kernel
theorem dX10_image_28 : decode cX10_image 28 = .ok (.iconst 0, 1) := by decide +kernel
theorem dX10_image_29 : decode cX10_image 29 = .ok (.istore_n 2, 1) := by decide +kernel
theorem dX10_image_30 : decode cX10_image 30 = .ok (.iload_n 2, 1) := by decide +kernel
theorem dX10_image_31 : decode cX10_image 31 = .ok (.sipush 136, 3) := by decide +kernel
theorem dX10_image_34 : decode cX10_image 34 = .ok (.if_icmp .ge 27, 3) := by decide +kernel
theorem dX10_image_37 : decode cX10_image 37 = .ok (.aload_n 0, 1) := by decide +kernel
theorem dX10_image_38 : decode cX10_image 38 = .ok (.getfield 53, 3) := by decide +kernel
theorem dX10_image_41 : decode cX10_image 41 = .ok (.sipush 136, 3) := by decide +kernel
theorem dX10_image_44 : decode cX10_image 44 = .ok (.iload_n 1, 1) := by decide +kernel
theorem dX10_image_45 : decode cX10_image 45 = .ok (.imul, 1) := by decide +kernel
theorem dX10_image_46 : decode cX10_image 46 = .ok (.iload_n 2, 1) := by decide +kernel
theorem dX10_image_47 : decode cX10_image 47 = .ok (.iadd, 1) := by decide +kernel
theorem dX10_image_48 : decode cX10_image 48 = .ok (.aload_n 0, 1) := by decide +kernel
theorem dX10_image_49 : decode cX10_image 49 = .ok (.getfield 19, 3) := by decide +kernel
theorem dX10_image_52 : decode cX10_image 52 = .ok (.iload_n 2, 1) := by decide +kernel
theorem dX10_image_53 : decode cX10_image 53 = .ok (.iaload, 1) := by decide +kernel
theorem dX10_image_54 : decode cX10_image 54 = .ok (.iastore, 1) := by decide +kernel
theorem dX10_image_55 : decode cX10_image 55 = .ok (.iinc 2 1, 3) := by decide +kernel
theorem dX10_image_58 : decode cX10_image 58 = .ok (.goto (-28), 3) := by decide +kernel
theorem dX10_image_61 : decode cX10_image 61 = .ok (.iconst 0, 1) := by decide +kernel
theorem dX10_image_62 : decode cX10_image 62 = .ok (.istore_n 2, 1) := by decide +kernel
theorem dX10_image_63 : decode cX10_image 63 = .ok (.iload_n 2, 1) := by decide +kernel
theorem dX10_image_64 : decode cX10_image 64 = .ok (.sipush 370, 3) := by decide +kernel
theorem dX10_image_67 : decode cX10_image 67 = .ok (.if_icmp .ge 27, 3) := by decide +kernel
theorem dX10_image_70 : decode cX10_image 70 = .ok (.aload_n 0, 1) := by decide +kernel
theorem dX10_image_71 : decode cX10_image 71 = .ok (.getfield 56, 3) := by decide +kernel
theorem dX10_image_74 : decode cX10_image 74 = .ok (.sipush 370, 3) := by decide +kernel
theorem dX10_image_77 : decode cX10_image 77 = .ok (.iload_n 1, 1) := by decide +kernel
theorem dX10_image_78 : decode cX10_image 78 = .ok (.imul, 1) := by decide +kernel
theorem dX10_image_79 : decode cX10_image 79 = .ok (.iload_n 2, 1) := by decide +kernel
theorem dX10_image_80 : decode cX10_image 80 = .ok (.iadd, 1) := by decide +kernel
theorem dX10_image_81 : decode cX10_image 81 = .ok (.aload_n 0, 1) := by decide +kernel
theorem dX10_image_82 : decode cX10_image 82 = .ok (.getfield 25, 3) := by decide +kernel
theorem dX10_image_85 : decode cX10_image 85 = .ok (.iload_n 2, 1) := by decide +kernel
theorem dX10_image_86 : decode cX10_image 86 = .ok (.iaload, 1) := by decide +kernel
theorem dX10_image_87 : decode cX10_image 87 = .ok (.iastore, 1) := by decide +kernel
theorem dX10_image_88 : decode cX10_image 88 = .ok (.iinc 2 1, 3) := by decide +kernel
theorem dX10_image_91 : decode cX10_image 91 = .ok (.goto (-28), 3) := by decide +kernel
theorem dX10_image_94 : decode cX10_image 94 = .ok (.aload_n 0, 1) := by decide +kernel
theorem dX10_image_95 : decode cX10_image 95 = .ok (.getfield 49, 3) := by decide +kernel
theorem dX10_image_98 : decode cX10_image 98 = .ok (.iload_n 1, 1) := by decide +kernel
theorem dX10_image_99 : decode cX10_image 99 = .ok (.iconst 1, 1) := by decide +kernel
theorem dX10_image_100 : decode cX10_image 100 = .ok (.bastore, 1) := by decide +kernel
theorem dX10_image_101 : decode cX10_image 101 = .ok (.iconst 1, 1) := by decide +kernel
theorem dX10_image_102 : decode cX10_image 102 = .ok (.ireturn, 1) := by decide +kernel
theorem dX10_restore_0 : decode cX10_restore 0 = .ok (.aload_n 0, 1) := by decide +kernel
theorem dX10_restore_1 : decode cX10_restore 1 = .ok (.iconst 0, 1) := by decide +kernel
theorem dX10_restore_2 : decode cX10_restore 2 = .ok (.putfield 62, 3) := by decide +kernel
theorem dX10_restore_5 : decode cX10_restore 5 = .ok (.iload_n 1, 1) := by decide +kernel
theorem dX10_restore_6 : decode cX10_restore 6 = .ok (.i2l, 1) := by decide +kernel
theorem dX10_restore_7 : decode cX10_restore 7 = .ok (.lconst 0, 1) := by decide +kernel
theorem dX10_restore_8 : decode cX10_restore 8 = .ok (.lconst 1, 1) := by decide +kernel
theorem dX10_restore_9 : decode cX10_restore 9 = .ok (.invokestatic 72, 3) := by decide +kernel
theorem dX10_restore_12 : decode cX10_restore 12 = .ok (.ifCond .ne 6, 3) := by decide +kernel
theorem dX10_restore_15 : decode cX10_restore 15 = .ok (.ldc 82, 2) := by decide +kernel
theorem dX10_restore_17 : decode cX10_restore 17 = .ok (.ireturn, 1) := by decide +kernel
theorem dX10_restore_18 : decode cX10_restore 18 = .ok (.aload_n 0, 1) := by decide +kernel
theorem dX10_restore_19 : decode cX10_restore 19 = .ok (.getfield 49, 3) := by decide +kernel
theorem dX10_restore_22 : decode cX10_restore 22 = .ok (.iload_n 1, 1) := by decide +kernel
theorem dX10_restore_23 : decode cX10_restore 23 = .ok (.baload, 1) := by decide +kernel
theorem dX10_restore_24 : decode cX10_restore 24 = .ok (.ifCond .ne 6, 3) := by decide +kernel
theorem dX10_restore_27 : decode cX10_restore 27 = .ok (.ldc 230, 2) := by decide +kernel
theorem dX10_restore_29 : decode cX10_restore 29 = .ok (.ireturn, 1) := by decide +kernel
theorem dX10_restore_30 : decode cX10_restore 30 = .ok (.iconst 0, 1) := by decide +kernel
theorem dX10_restore_31 : decode cX10_restore 31 = .ok (.istore_n 2, 1) := by decide +kernel
theorem dX10_restore_32 : decode cX10_restore 32 = .ok (.iload_n 2, 1) := by decide +kernel
theorem dX10_restore_33 : decode cX10_restore 33 = .ok (.sipush 136, 3) := by decide +kernel
theorem dX10_restore_36 : decode cX10_restore 36 = .ok (.if_icmp .ge 27, 3) := by decide +kernel
theorem dX10_restore_39 : decode cX10_restore 39 = .ok (.aload_n 0, 1) := by decide +kernel
theorem dX10_restore_40 : decode cX10_restore 40 = .ok (.getfield 19, 3) := by decide +kernel
theorem dX10_restore_43 : decode cX10_restore 43 = .ok (.iload_n 2, 1) := by decide +kernel
theorem dX10_restore_44 : decode cX10_restore 44 = .ok (.aload_n 0, 1) := by decide +kernel
theorem dX10_restore_45 : decode cX10_restore 45 = .ok (.getfield 53, 3) := by decide +kernel
theorem dX10_restore_48 : decode cX10_restore 48 = .ok (.sipush 136, 3) := by decide +kernel
theorem dX10_restore_51 : decode cX10_restore 51 = .ok (.iload_n 1, 1) := by decide +kernel
theorem dX10_restore_52 : decode cX10_restore 52 = .ok (.imul, 1) := by decide +kernel
theorem dX10_restore_53 : decode cX10_restore 53 = .ok (.iload_n 2, 1) := by decide +kernel
theorem dX10_restore_54 : decode cX10_restore 54 = .ok (.iadd, 1) := by decide +kernel
theorem dX10_restore_55 : decode cX10_restore 55 = .ok (.iaload, 1) := by decide +kernel
theorem dX10_restore_56 : decode cX10_restore 56 = .ok (.iastore, 1) := by decide +kernel
theorem dX10_restore_57 : decode cX10_restore 57 = .ok (.iinc 2 1, 3) := by decide +kernel
theorem dX10_restore_60 : decode cX10_restore 60 = .ok (.goto (-28), 3) := by decide +kernel
theorem dX10_restore_63 : decode cX10_restore 63 = .ok (.iconst 0, 1) := by decide +kernel
theorem dX10_restore_64 : decode cX10_restore 64 = .ok (.istore_n 2, 1) := by decide +kernel
theorem dX10_restore_65 : decode cX10_restore 65 = .ok (.iload_n 2, 1) := by decide +kernel
theorem dX10_restore_66 : decode cX10_restore 66 = .ok (.sipush 370, 3) := by decide +kernel
theorem dX10_restore_69 : decode cX10_restore 69 = .ok (.if_icmp .ge 27, 3) := by decide +kernel
theorem dX10_restore_72 : decode cX10_restore 72 = .ok (.aload_n 0, 1) := by decide +kernel
theorem dX10_restore_73 : decode cX10_restore 73 = .ok (.getfield 25, 3) := by decide +kernel
theorem dX10_restore_76 : decode cX10_restore 76 = .ok (.iload_n 2, 1) := by decide +kernel
theorem dX10_restore_77 : decode cX10_restore 77 = .ok (.aload_n 0, 1) := by decide +kernel
theorem dX10_restore_78 : decode cX10_restore 78 = .ok (.getfield 56, 3) := by decide +kernel
theorem dX10_restore_81 : decode cX10_restore 81 = .ok (.sipush 370, 3) := by decide +kernel
theorem dX10_restore_84 : decode cX10_restore 84 = .ok (.iload_n 1, 1) := by decide +kernel
theorem dX10_restore_85 : decode cX10_restore 85 = .ok (.imul, 1) := by decide +kernel
theorem dX10_restore_86 : decode cX10_restore 86 = .ok (.iload_n 2, 1) := by decide +kernel
theorem dX10_restore_87 : decode cX10_restore 87 = .ok (.iadd, 1) := by decide +kernel
theorem dX10_restore_88 : decode cX10_restore 88 = .ok (.iaload, 1) := by decide +kernel
theorem dX10_restore_89 : decode cX10_restore 89 = .ok (.iastore, 1) := by decide +kernel
theorem dX10_restore_90 : decode cX10_restore 90 = .ok (.iinc 2 1, 3) := by decide +kernel
theorem dX10_restore_93 : decode cX10_restore 93 = .ok (.goto (-28), 3) := by decide +kernel
theorem dX10_restore_96 : decode cX10_restore 96 = .ok (.iconst 1, 1) := by decide +kernel
theorem dX10_restore_97 : decode cX10_restore 97 = .ok (.ireturn, 1) := by decide +kernel
theorem dX10_kindOf_0 : decode cX10_kindOf 0 = .ok (.aload_n 0, 1) := by decide +kernel
theorem dX10_kindOf_1 : decode cX10_kindOf 1 = .ok (.getfield 25, 3) := by decide +kernel
theorem dX10_kindOf_4 : decode cX10_kindOf 4 = .ok (.bipush 26, 2) := by decide +kernel
theorem dX10_kindOf_6 : decode cX10_kindOf 6 = .ok (.bipush 8, 2) := by decide +kernel
theorem dX10_kindOf_8 : decode cX10_kindOf 8 = .ok (.iload_n 1, 1) := by decide +kernel
theorem dX10_kindOf_9 : decode cX10_kindOf 9 = .ok (.imul, 1) := by decide +kernel
theorem dX10_kindOf_10 : decode cX10_kindOf 10 = .ok (.iadd, 1) := by decide +kernel
theorem dX10_kindOf_11 : decode cX10_kindOf 11 = .ok (.iload_n 2, 1) := by decide +kernel
theorem dX10_kindOf_12 : decode cX10_kindOf 12 = .ok (.iadd, 1) := by decide +kernel
theorem dX10_kindOf_13 : decode cX10_kindOf 13 = .ok (.iaload, 1) := by decide +kernel
theorem dX10_kindOf_14 : decode cX10_kindOf 14 = .ok (.iconst 1, 1) := by decide +kernel
theorem dX10_kindOf_15 : decode cX10_kindOf 15 = .ok (.iadd, 1) := by decide +kernel
theorem dX10_kindOf_16 : decode cX10_kindOf 16 = .ok (.ireturn, 1) := by decide +kernel
theorem dX10_isOf_0 : decode cX10_isOf 0 = .ok (.iload_n 1, 1) := by decide +kernel
theorem dX10_isOf_1 : decode cX10_isOf 1 = .ok (.ifCond .eq 28, 3) := by decide +kernel
theorem dX10_isOf_4 : decode cX10_isOf 4 = .ok (.iload_n 0, 1) := by decide +kernel
theorem dX10_isOf_5 : decode cX10_isOf 5 = .ok (.iload_n 1, 1) := by decide +kernel
theorem dX10_isOf_6 : decode cX10_isOf 6 = .ok (.if_icmp .eq 23, 3) := by decide +kernel
theorem dX10_isOf_9 : decode cX10_isOf 9 = .ok (.iload_n 1, 1) := by decide +kernel
theorem dX10_isOf_10 : decode cX10_isOf 10 = .ok (.iconst 2, 1) := by decide +kernel
theorem dX10_isOf_11 : decode cX10_isOf 11 = .ok (.if_icmp .ne 8, 3) := by decide +kernel
theorem dX10_isOf_14 : decode cX10_isOf 14 = .ok (.iload_n 0, 1) := by decide +kernel
theorem dX10_isOf_15 : decode cX10_isOf 15 = .ok (.iconst 3, 1) := by decide +kernel
theorem dX10_isOf_16 : decode cX10_isOf 16 = .ok (.if_icmp .eq 13, 3) := by decide +kernel
theorem dX10_isOf_19 : decode cX10_isOf 19 = .ok (.iload_n 1, 1) := by decide +kernel
theorem dX10_isOf_20 : decode cX10_isOf 20 = .ok (.iconst 1, 1) := by decide +kernel
theorem dX10_isOf_21 : decode cX10_isOf 21 = .ok (.if_icmp .ne 12, 3) := by decide +kernel
theorem dX10_isOf_24 : decode cX10_isOf 24 = .ok (.iload_n 0, 1) := by decide +kernel
theorem dX10_isOf_25 : decode cX10_isOf 25 = .ok (.iconst 4, 1) := by decide +kernel
theorem dX10_isOf_26 : decode cX10_isOf 26 = .ok (.if_icmp .ne 7, 3) := by decide +kernel
theorem dX10_isOf_29 : decode cX10_isOf 29 = .ok (.iconst 1, 1) := by decide +kernel
theorem dX10_isOf_30 : decode cX10_isOf 30 = .ok (.goto 4, 3) := by decide +kernel
theorem dX10_isOf_33 : decode cX10_isOf 33 = .ok (.iconst 0, 1) := by decide +kernel
theorem dX10_isOf_34 : decode cX10_isOf 34 = .ok (.ireturn, 1) := by decide +kernel
theorem dX10_isIdle_0 : decode cX10_isIdle 0 = .ok (.aload_n 0, 1) := by decide +kernel
theorem dX10_isIdle_1 : decode cX10_isIdle 1 = .ok (.getfield 25, 3) := by decide +kernel
theorem dX10_isIdle_4 : decode cX10_isIdle 4 = .ok (.iconst 2, 1) := by decide +kernel
theorem dX10_isIdle_5 : decode cX10_isIdle 5 = .ok (.iaload, 1) := by decide +kernel
theorem dX10_isIdle_6 : decode cX10_isIdle 6 = .ok (.ifCond .eq 12, 3) := by decide +kernel
theorem dX10_isIdle_9 : decode cX10_isIdle 9 = .ok (.aload_n 0, 1) := by decide +kernel
theorem dX10_isIdle_10 : decode cX10_isIdle 10 = .ok (.getfield 25, 3) := by decide +kernel
theorem dX10_isIdle_13 : decode cX10_isIdle 13 = .ok (.iconst 5, 1) := by decide +kernel
theorem dX10_isIdle_14 : decode cX10_isIdle 14 = .ok (.iaload, 1) := by decide +kernel
theorem dX10_isIdle_15 : decode cX10_isIdle 15 = .ok (.ifCond .ne 7, 3) := by decide +kernel
theorem dX10_isIdle_18 : decode cX10_isIdle 18 = .ok (.iconst 1, 1) := by decide +kernel
theorem dX10_isIdle_19 : decode cX10_isIdle 19 = .ok (.goto 4, 3) := by decide +kernel
theorem dX10_isIdle_22 : decode cX10_isIdle 22 = .ok (.iconst 0, 1) := by decide +kernel
theorem dX10_isIdle_23 : decode cX10_isIdle 23 = .ok (.ireturn, 1) := by decide +kernel
theorem dX10_kind_0 : decode cX10_kind 0 = .ok (.aload_n 0, 1) := by decide +kernel
theorem dX10_kind_1 : decode cX10_kind 1 = .ok (.iconst 0, 1) := by decide +kernel
theorem dX10_kind_2 : decode cX10_kind 2 = .ok (.putfield 62, 3) := by decide +kernel
theorem dX10_kind_5 : decode cX10_kind 5 = .ok (.aload_n 0, 1) := by decide +kernel
theorem dX10_kind_6 : decode cX10_kind 6 = .ok (.iload_n 1, 1) := by decide +kernel
theorem dX10_kind_7 : decode cX10_kind 7 = .ok (.iload_n 2, 1) := by decide +kernel
theorem dX10_kind_8 : decode cX10_kind 8 = .ok (.invokevirtual 220, 3) := by decide +kernel
theorem dX10_kind_11 : decode cX10_kind 11 = .ok (.ifCond .ne 8, 3) := by decide +kernel
theorem dX10_kind_14 : decode cX10_kind 14 = .ok (.ldc 82, 2) := by decide +kernel
theorem dX10_kind_16 : decode cX10_kind 16 = .ok (.goto 21, 3) := by decide +kernel
theorem dX10_kind_19 : decode cX10_kind 19 = .ok (.aload_n 0, 1) := by decide +kernel
theorem dX10_kind_20 : decode cX10_kind 20 = .ok (.invokevirtual 307, 3) := by decide +kernel
theorem dX10_kind_23 : decode cX10_kind 23 = .ok (.ifCond .eq 8, 3) := by decide +kernel
theorem dX10_kind_26 : decode cX10_kind 26 = .ok (.ldc 230, 2) := by decide +kernel
theorem dX10_kind_28 : decode cX10_kind 28 = .ok (.goto 9, 3) := by decide +kernel
theorem dX10_kind_31 : decode cX10_kind 31 = .ok (.aload_n 0, 1) := by decide +kernel
theorem dX10_kind_32 : decode cX10_kind 32 = .ok (.iload_n 1, 1) := by decide +kernel
theorem dX10_kind_33 : decode cX10_kind 33 = .ok (.iload_n 2, 1) := by decide +kernel
theorem dX10_kind_34 : decode cX10_kind 34 = .ok (.invokevirtual 311, 3) := by decide +kernel
theorem dX10_kind_37 : decode cX10_kind 37 = .ok (.ireturn, 1) := by decide +kernel
theorem dX10_as_0 : decode cX10_as 0 = .ok (.aload_n 0, 1) := by decide +kernel
theorem dX10_as_1 : decode cX10_as 1 = .ok (.iconst 0, 1) := by decide +kernel
theorem dX10_as_2 : decode cX10_as 2 = .ok (.putfield 62, 3) := by decide +kernel
theorem dX10_as_5 : decode cX10_as 5 = .ok (.aload_n 0, 1) := by decide +kernel
theorem dX10_as_6 : decode cX10_as 6 = .ok (.iload_n 1, 1) := by decide +kernel
theorem dX10_as_7 : decode cX10_as 7 = .ok (.iload_n 2, 1) := by decide +kernel
theorem dX10_as_8 : decode cX10_as 8 = .ok (.invokevirtual 220, 3) := by decide +kernel
theorem dX10_as_11 : decode cX10_as 11 = .ok (.ifCond .eq 15, 3) := by decide +kernel
theorem dX10_as_14 : decode cX10_as 14 = .ok (.iload_n 3, 1) := by decide +kernel
theorem dX10_as_15 : decode cX10_as 15 = .ok (.i2l, 1) := by decide +kernel
theorem dX10_as_16 : decode cX10_as 16 = .ok (.lconst 0, 1) := by decide +kernel
theorem dX10_as_17 : decode cX10_as 17 = .ok (.ldc2_w 314, 3) := by decide +kernel
theorem dX10_as_20 : decode cX10_as 20 = .ok (.invokestatic 72, 3) := by decide +kernel
theorem dX10_as_23 : decode cX10_as 23 = .ok (.ifCond .ne 6, 3) := by decide +kernel
theorem dX10_as_26 : decode cX10_as 26 = .ok (.ldc 82, 2) := by decide +kernel
theorem dX10_as_28 : decode cX10_as 28 = .ok (.ireturn, 1) := by decide +kernel
theorem dX10_as_29 : decode cX10_as 29 = .ok (.aload_n 0, 1) := by decide +kernel
theorem dX10_as_30 : decode cX10_as 30 = .ok (.invokevirtual 307, 3) := by decide +kernel
theorem dX10_as_33 : decode cX10_as 33 = .ok (.ifCond .eq 6, 3) := by decide +kernel
theorem dX10_as_36 : decode cX10_as 36 = .ok (.ldc 230, 2) := by decide +kernel
theorem dX10_as_38 : decode cX10_as 38 = .ok (.ireturn, 1) := by decide +kernel
theorem dX10_as_39 : decode cX10_as 39 = .ok (.aload_n 0, 1) := by decide +kernel
theorem dX10_as_40 : decode cX10_as 40 = .ok (.iconst 0, 1) := by decide +kernel
theorem dX10_as_41 : decode cX10_as 41 = .ok (.putfield 66, 3) := by decide +kernel
theorem dX10_as_44 : decode cX10_as 44 = .ok (.aload_n 0, 1) := by decide +kernel
theorem dX10_as_45 : decode cX10_as 45 = .ok (.iload_n 1, 1) := by decide +kernel
theorem dX10_as_46 : decode cX10_as 46 = .ok (.iload_n 2, 1) := by decide +kernel
theorem dX10_as_47 : decode cX10_as 47 = .ok (.invokevirtual 311, 3) := by decide +kernel
theorem dX10_as_50 : decode cX10_as 50 = .ok (.iload_n 3, 1) := by decide +kernel
theorem dX10_as_51 : decode cX10_as 51 = .ok (.invokestatic 316, 3) := by decide +kernel
theorem dX10_as_54 : decode cX10_as 54 = .ok (.ifCond .eq 20, 3) := by decide +kernel
theorem dX10_as_57 : decode cX10_as 57 = .ok (.aload_n 0, 1) := by decide +kernel
theorem dX10_as_58 : decode cX10_as 58 = .ok (.getfield 25, 3) := by decide +kernel
theorem dX10_as_61 : decode cX10_as 61 = .ok (.bipush 42, 2) := by decide +kernel
theorem dX10_as_63 : decode cX10_as 63 = .ok (.bipush 8, 2) := by decide +kernel
theorem dX10_as_65 : decode cX10_as 65 = .ok (.iload_n 1, 1) := by decide +kernel
theorem dX10_as_66 : decode cX10_as 66 = .ok (.imul, 1) := by decide +kernel
theorem dX10_as_67 : decode cX10_as 67 = .ok (.iadd, 1) := by decide +kernel
theorem dX10_as_68 : decode cX10_as 68 = .ok (.iload_n 2, 1) := by decide +kernel
theorem dX10_as_69 : decode cX10_as 69 = .ok (.iadd, 1) := by decide +kernel
theorem dX10_as_70 : decode cX10_as 70 = .ok (.iaload, 1) := by decide +kernel
theorem dX10_as_71 : decode cX10_as 71 = .ok (.goto 8, 3) := by decide +kernel
theorem dX10_as_74 : decode cX10_as 74 = .ok (.aload_n 0, 1) := by decide +kernel
theorem dX10_as_75 : decode cX10_as 75 = .ok (.iconst 3, 1) := by decide +kernel
theorem dX10_as_76 : decode cX10_as 76 = .ok (.invokevirtual 83, 3) := by decide +kernel
theorem dX10_as_79 : decode cX10_as 79 = .ok (.ireturn, 1) := by decide +kernel
theorem dX10_began_0 : decode cX10_began 0 = .ok (.aload_n 0, 1) := by decide +kernel
theorem dX10_began_1 : decode cX10_began 1 = .ok (.getfield 319, 3) := by decide +kernel
theorem dX10_began_4 : decode cX10_began 4 = .ok (.bipush 16, 2) := by decide +kernel
theorem dX10_began_6 : decode cX10_began 6 = .ok (.if_icmp .ge 23, 3) := by decide +kernel
theorem dX10_began_9 : decode cX10_began 9 = .ok (.aload_n 0, 1) := by decide +kernel
theorem dX10_began_10 : decode cX10_began 10 = .ok (.getfield 59, 3) := by decide +kernel
theorem dX10_began_13 : decode cX10_began 13 = .ok (.aload_n 0, 1) := by decide +kernel
theorem dX10_began_14 : decode cX10_began 14 = .ok (.getfield 319, 3) := by decide +kernel
theorem dX10_began_17 : decode cX10_began 17 = .ok (.iload_n 1, 1) := by decide +kernel
theorem dX10_began_18 : decode cX10_began 18 = .ok (.iastore, 1) := by decide +kernel
theorem dX10_began_19 : decode cX10_began 19 = .ok (.aload_n 0, 1) := by decide +kernel
theorem dX10_began_20 : decode cX10_began 20 = .ok (.dup, 1) := by decide +kernel
theorem dX10_began_21 : decode cX10_began 21 = .ok (.getfield 319, 3) := by decide +kernel
theorem dX10_began_24 : decode cX10_began 24 = .ok (.iconst 1, 1) := by decide +kernel
theorem dX10_began_25 : decode cX10_began 25 = .ok (.iadd, 1) := by decide +kernel
theorem dX10_began_26 : decode cX10_began 26 = .ok (.putfield 319, 3) := by decide +kernel
theorem dX10_began_29 : decode cX10_began 29 = .ok (.return_, 1) := by decide +kernel
theorem dX10_plainSize_0 : decode cX10_plainSize 0 = .ok (.aload_n 0, 1) := by decide +kernel
theorem dX10_plainSize_1 : decode cX10_plainSize 1 = .ok (.bipush 10, 2) := by decide +kernel
theorem dX10_plainSize_3 : decode cX10_plainSize 3 = .ok (.invokevirtual 322, 3) := by decide +kernel
theorem dX10_plainSize_6 : decode cX10_plainSize 6 = .ok (.aload_n 0, 1) := by decide +kernel
theorem dX10_plainSize_7 : decode cX10_plainSize 7 = .ok (.getfield 25, 3) := by decide +kernel
theorem dX10_plainSize_10 : decode cX10_plainSize 10 = .ok (.bipush 42, 2) := by decide +kernel
theorem dX10_plainSize_12 : decode cX10_plainSize 12 = .ok (.bipush 8, 2) := by decide +kernel
theorem dX10_plainSize_14 : decode cX10_plainSize 14 = .ok (.iload_n 1, 1) := by decide +kernel
theorem dX10_plainSize_15 : decode cX10_plainSize 15 = .ok (.imul, 1) := by decide +kernel
theorem dX10_plainSize_16 : decode cX10_plainSize 16 = .ok (.iadd, 1) := by decide +kernel
theorem dX10_plainSize_17 : decode cX10_plainSize 17 = .ok (.iload_n 2, 1) := by decide +kernel
theorem dX10_plainSize_18 : decode cX10_plainSize 18 = .ok (.iadd, 1) := by decide +kernel
theorem dX10_plainSize_19 : decode cX10_plainSize 19 = .ok (.iaload, 1) := by decide +kernel
theorem dX10_plainSize_20 : decode cX10_plainSize 20 = .ok (.ireturn, 1) := by decide +kernel
theorem dX10_heldSize_0 : decode cX10_heldSize 0 = .ok (.aload_n 0, 1) := by decide +kernel
theorem dX10_heldSize_1 : decode cX10_heldSize 1 = .ok (.bipush 11, 2) := by decide +kernel
theorem dX10_heldSize_3 : decode cX10_heldSize 3 = .ok (.invokevirtual 322, 3) := by decide +kernel
theorem dX10_heldSize_6 : decode cX10_heldSize 6 = .ok (.aload_n 0, 1) := by decide +kernel
theorem dX10_heldSize_7 : decode cX10_heldSize 7 = .ok (.iload_n 1, 1) := by decide +kernel
theorem dX10_heldSize_8 : decode cX10_heldSize 8 = .ok (.iload_n 2, 1) := by decide +kernel
theorem dX10_heldSize_9 : decode cX10_heldSize 9 = .ok (.invokevirtual 325, 3) := by decide +kernel
theorem dX10_heldSize_12 : decode cX10_heldSize 12 = .ok (.aload_n 0, 1) := by decide +kernel
theorem dX10_heldSize_13 : decode cX10_heldSize 13 = .ok (.getfield 25, 3) := by decide +kernel
theorem dX10_heldSize_16 : decode cX10_heldSize 16 = .ok (.bipush 10, 2) := by decide +kernel
theorem dX10_heldSize_18 : decode cX10_heldSize 18 = .ok (.bipush 8, 2) := by decide +kernel
theorem dX10_heldSize_20 : decode cX10_heldSize 20 = .ok (.iload_n 1, 1) := by decide +kernel
theorem dX10_heldSize_21 : decode cX10_heldSize 21 = .ok (.imul, 1) := by decide +kernel
theorem dX10_heldSize_22 : decode cX10_heldSize 22 = .ok (.iadd, 1) := by decide +kernel
theorem dX10_heldSize_23 : decode cX10_heldSize 23 = .ok (.iload_n 2, 1) := by decide +kernel
theorem dX10_heldSize_24 : decode cX10_heldSize 24 = .ok (.iadd, 1) := by decide +kernel
theorem dX10_heldSize_25 : decode cX10_heldSize 25 = .ok (.iaload, 1) := by decide +kernel
theorem dX10_heldSize_26 : decode cX10_heldSize 26 = .ok (.iadd, 1) := by decide +kernel
theorem dX10_heldSize_27 : decode cX10_heldSize 27 = .ok (.ireturn, 1) := by decide +kernel
theorem dX10_restedSize_0 : decode cX10_restedSize 0 = .ok (.aload_n 0, 1) := by decide +kernel
theorem dX10_restedSize_1 : decode cX10_restedSize 1 = .ok (.bipush 12, 2) := by decide +kernel
theorem dX10_restedSize_3 : decode cX10_restedSize 3 = .ok (.invokevirtual 322, 3) := by decide +kernel
theorem dX10_restedSize_6 : decode cX10_restedSize 6 = .ok (.iconst 2, 1) := by decide +kernel
theorem dX10_restedSize_7 : decode cX10_restedSize 7 = .ok (.aload_n 0, 1) := by decide +kernel
theorem dX10_restedSize_8 : decode cX10_restedSize 8 = .ok (.iload_n 1, 1) := by decide +kernel
theorem dX10_restedSize_9 : decode cX10_restedSize 9 = .ok (.iload_n 2, 1) := by decide +kernel
theorem dX10_restedSize_10 : decode cX10_restedSize 10 = .ok (.invokevirtual 328, 3) := by decide +kernel
theorem dX10_restedSize_13 : decode cX10_restedSize 13 = .ok (.imul, 1) := by decide +kernel
theorem dX10_restedSize_14 : decode cX10_restedSize 14 = .ok (.ireturn, 1) := by decide +kernel
theorem dX10_spentSize_0 : decode cX10_spentSize 0 = .ok (.aload_n 0, 1) := by decide +kernel
theorem dX10_spentSize_1 : decode cX10_spentSize 1 = .ok (.bipush 14, 2) := by decide +kernel
theorem dX10_spentSize_3 : decode cX10_spentSize 3 = .ok (.invokevirtual 322, 3) := by decide +kernel
theorem dX10_spentSize_6 : decode cX10_spentSize 6 = .ok (.aload_n 0, 1) := by decide +kernel
theorem dX10_spentSize_7 : decode cX10_spentSize 7 = .ok (.iload_n 1, 1) := by decide +kernel
theorem dX10_spentSize_8 : decode cX10_spentSize 8 = .ok (.iload_n 2, 1) := by decide +kernel
theorem dX10_spentSize_9 : decode cX10_spentSize 9 = .ok (.invokevirtual 325, 3) := by decide +kernel
theorem dX10_spentSize_12 : decode cX10_spentSize 12 = .ok (.ineg, 1) := by decide +kernel
theorem dX10_spentSize_13 : decode cX10_spentSize 13 = .ok (.ireturn, 1) := by decide +kernel
theorem dX10_heavedMark_0 : decode cX10_heavedMark 0 = .ok (.iload_n 3, 1) := by decide +kernel
theorem dX10_heavedMark_1 : decode cX10_heavedMark 1 = .ok (.iconst 3, 1) := by decide +kernel
theorem dX10_heavedMark_2 : decode cX10_heavedMark 2 = .ok (.if_icmp .ne 9, 3) := by decide +kernel
theorem dX10_heavedMark_5 : decode cX10_heavedMark 5 = .ok (.aload_n 0, 1) := by decide +kernel
theorem dX10_heavedMark_6 : decode cX10_heavedMark 6 = .ok (.bipush 22, 2) := by decide +kernel
theorem dX10_heavedMark_8 : decode cX10_heavedMark 8 = .ok (.invokevirtual 322, 3) := by decide +kernel
theorem dX10_heavedMark_11 : decode cX10_heavedMark 11 = .ok (.aload_n 0, 1) := by decide +kernel
theorem dX10_heavedMark_12 : decode cX10_heavedMark 12 = .ok (.bipush 21, 2) := by decide +kernel
theorem dX10_heavedMark_14 : decode cX10_heavedMark 14 = .ok (.invokevirtual 322, 3) := by decide +kernel
theorem dX10_heavedMark_17 : decode cX10_heavedMark 17 = .ok (.aload_n 0, 1) := by decide +kernel
theorem dX10_heavedMark_18 : decode cX10_heavedMark 18 = .ok (.bipush 20, 2) := by decide +kernel
theorem dX10_heavedMark_20 : decode cX10_heavedMark 20 = .ok (.invokevirtual 322, 3) := by decide +kernel
theorem dX10_heavedMark_23 : decode cX10_heavedMark 23 = .ok (.iload_n 2, 1) := by decide +kernel
theorem dX10_heavedMark_24 : decode cX10_heavedMark 24 = .ok (.bipush 10, 2) := by decide +kernel
theorem dX10_heavedMark_26 : decode cX10_heavedMark 26 = .ok (.aload_n 0, 1) := by decide +kernel
theorem dX10_heavedMark_27 : decode cX10_heavedMark 27 = .ok (.iload_n 1, 1) := by decide +kernel
theorem dX10_heavedMark_28 : decode cX10_heavedMark 28 = .ok (.iload_n 2, 1) := by decide +kernel
theorem dX10_heavedMark_29 : decode cX10_heavedMark 29 = .ok (.iconst 4, 1) := by decide +kernel
theorem dX10_heavedMark_30 : decode cX10_heavedMark 30 = .ok (.invokevirtual 226, 3) := by decide +kernel
theorem dX10_heavedMark_33 : decode cX10_heavedMark 33 = .ok (.imul, 1) := by decide +kernel
theorem dX10_heavedMark_34 : decode cX10_heavedMark 34 = .ok (.iadd, 1) := by decide +kernel
theorem dX10_heavedMark_35 : decode cX10_heavedMark 35 = .ok (.iload_n 3, 1) := by decide +kernel
theorem dX10_heavedMark_36 : decode cX10_heavedMark 36 = .ok (.iconst 3, 1) := by decide +kernel
theorem dX10_heavedMark_37 : decode cX10_heavedMark 37 = .ok (.if_icmp .ne 8, 3) := by decide +kernel
theorem dX10_heavedMark_40 : decode cX10_heavedMark 40 = .ok (.bipush 100, 2) := by decide +kernel
theorem dX10_heavedMark_42 : decode cX10_heavedMark 42 = .ok (.goto 4, 3) := by decide +kernel
theorem dX10_heavedMark_45 : decode cX10_heavedMark 45 = .ok (.iconst 0, 1) := by decide +kernel
theorem dX10_heavedMark_46 : decode cX10_heavedMark 46 = .ok (.iadd, 1) := by decide +kernel
theorem dX10_heavedMark_47 : decode cX10_heavedMark 47 = .ok (.ireturn, 1) := by decide +kernel
theorem dX10_heavedSize_0 : decode cX10_heavedSize 0 = .ok (.aload_n 0, 1) := by decide +kernel
theorem dX10_heavedSize_1 : decode cX10_heavedSize 1 = .ok (.bipush 13, 2) := by decide +kernel
theorem dX10_heavedSize_3 : decode cX10_heavedSize 3 = .ok (.invokevirtual 322, 3) := by decide +kernel
theorem dX10_heavedSize_6 : decode cX10_heavedSize 6 = .ok (.aload_n 0, 1) := by decide +kernel
theorem dX10_heavedSize_7 : decode cX10_heavedSize 7 = .ok (.iload_n 1, 1) := by decide +kernel
theorem dX10_heavedSize_8 : decode cX10_heavedSize 8 = .ok (.iload_n 2, 1) := by decide +kernel
theorem dX10_heavedSize_9 : decode cX10_heavedSize 9 = .ok (.invokevirtual 325, 3) := by decide +kernel
theorem dX10_heavedSize_12 : decode cX10_heavedSize 12 = .ok (.istore 4, 2) := by decide +kernel
theorem dX10_heavedSize_14 : decode cX10_heavedSize 14 = .ok (.iload 4, 2) := by decide +kernel
theorem dX10_heavedSize_16 : decode cX10_heavedSize 16 = .ok (.aload_n 0, 1) := by decide +kernel
theorem dX10_heavedSize_17 : decode cX10_heavedSize 17 = .ok (.iload_n 1, 1) := by decide +kernel
theorem dX10_heavedSize_18 : decode cX10_heavedSize 18 = .ok (.iload_n 2, 1) := by decide +kernel
theorem dX10_heavedSize_19 : decode cX10_heavedSize 19 = .ok (.iload_n 3, 1) := by decide +kernel
theorem dX10_heavedSize_20 : decode cX10_heavedSize 20 = .ok (.invokevirtual 331, 3) := by decide +kernel
theorem dX10_heavedSize_23 : decode cX10_heavedSize 23 = .ok (.isub, 1) := by decide +kernel
theorem dX10_heavedSize_24 : decode cX10_heavedSize 24 = .ok (.ireturn, 1) := by decide +kernel
theorem dX10_ownMark_0 : decode cX10_ownMark 0 = .ok (.iload_n 3, 1) := by decide +kernel
theorem dX10_ownMark_1 : decode cX10_ownMark 1 = .ok (.iconst 2, 1) := by decide +kernel
theorem dX10_ownMark_2 : decode cX10_ownMark 2 = .ok (.invokestatic 316, 3) := by decide +kernel
theorem dX10_ownMark_5 : decode cX10_ownMark 5 = .ok (.ifCond .eq 11, 3) := by decide +kernel
theorem dX10_ownMark_8 : decode cX10_ownMark 8 = .ok (.aload_n 0, 1) := by decide +kernel
theorem dX10_ownMark_9 : decode cX10_ownMark 9 = .ok (.iload_n 1, 1) := by decide +kernel
theorem dX10_ownMark_10 : decode cX10_ownMark 10 = .ok (.iload_n 2, 1) := by decide +kernel
theorem dX10_ownMark_11 : decode cX10_ownMark 11 = .ok (.iload_n 3, 1) := by decide +kernel
theorem dX10_ownMark_12 : decode cX10_ownMark 12 = .ok (.invokevirtual 331, 3) := by decide +kernel
theorem dX10_ownMark_15 : decode cX10_ownMark 15 = .ok (.ireturn, 1) := by decide +kernel
theorem dX10_ownMark_16 : decode cX10_ownMark 16 = .ok (.iload_n 3, 1) := by decide +kernel
theorem dX10_ownMark_17 : decode cX10_ownMark 17 = .ok (.iconst 1, 1) := by decide +kernel
theorem dX10_ownMark_18 : decode cX10_ownMark 18 = .ok (.if_icmp .eq 19, 3) := by decide +kernel
theorem dX10_ownMark_21 : decode cX10_ownMark 21 = .ok (.aload_n 0, 1) := by decide +kernel
theorem dX10_ownMark_22 : decode cX10_ownMark 22 = .ok (.iload_n 3, 1) := by decide +kernel
theorem dX10_ownMark_23 : decode cX10_ownMark 23 = .ok (.iconst 5, 1) := by decide +kernel
theorem dX10_ownMark_24 : decode cX10_ownMark 24 = .ok (.if_icmp .ne 8, 3) := by decide +kernel
theorem dX10_ownMark_27 : decode cX10_ownMark 27 = .ok (.bipush 23, 2) := by decide +kernel
theorem dX10_ownMark_29 : decode cX10_ownMark 29 = .ok (.goto 5, 3) := by decide +kernel
theorem dX10_ownMark_32 : decode cX10_ownMark 32 = .ok (.bipush 24, 2) := by decide +kernel
theorem dX10_ownMark_34 : decode cX10_ownMark 34 = .ok (.invokevirtual 322, 3) := by decide +kernel
theorem dX10_ownMark_37 : decode cX10_ownMark 37 = .ok (.aload_n 0, 1) := by decide +kernel
theorem dX10_ownMark_38 : decode cX10_ownMark 38 = .ok (.bipush 20, 2) := by decide +kernel
theorem dX10_ownMark_40 : decode cX10_ownMark 40 = .ok (.invokevirtual 322, 3) := by decide +kernel
theorem dX10_ownMark_43 : decode cX10_ownMark 43 = .ok (.iload_n 3, 1) := by decide +kernel
theorem dX10_ownMark_44 : decode cX10_ownMark 44 = .ok (.iconst 5, 1) := by decide +kernel
theorem dX10_ownMark_45 : decode cX10_ownMark 45 = .ok (.if_icmp .ne 14, 3) := by decide +kernel
theorem dX10_ownMark_48 : decode cX10_ownMark 48 = .ok (.iload_n 2, 1) := by decide +kernel
theorem dX10_ownMark_49 : decode cX10_ownMark 49 = .ok (.aload_n 0, 1) := by decide +kernel
theorem dX10_ownMark_50 : decode cX10_ownMark 50 = .ok (.iload_n 1, 1) := by decide +kernel
theorem dX10_ownMark_51 : decode cX10_ownMark 51 = .ok (.iload_n 2, 1) := by decide +kernel
theorem dX10_ownMark_52 : decode cX10_ownMark 52 = .ok (.invokevirtual 334, 3) := by decide +kernel
theorem dX10_ownMark_55 : decode cX10_ownMark 55 = .ok (.iadd, 1) := by decide +kernel
theorem dX10_ownMark_56 : decode cX10_ownMark 56 = .ok (.goto 20, 3) := by decide +kernel
theorem dX10_ownMark_59 : decode cX10_ownMark 59 = .ok (.iload_n 3, 1) := by decide +kernel
theorem dX10_ownMark_60 : decode cX10_ownMark 60 = .ok (.iconst 4, 1) := by decide +kernel
theorem dX10_ownMark_61 : decode cX10_ownMark 61 = .ok (.if_icmp .ne 14, 3) := by decide +kernel
theorem dX10_ownMark_64 : decode cX10_ownMark 64 = .ok (.iload_n 2, 1) := by decide +kernel
theorem dX10_ownMark_65 : decode cX10_ownMark 65 = .ok (.aload_n 0, 1) := by decide +kernel
theorem dX10_ownMark_66 : decode cX10_ownMark 66 = .ok (.iload_n 1, 1) := by decide +kernel
theorem dX10_ownMark_67 : decode cX10_ownMark 67 = .ok (.iload_n 2, 1) := by decide +kernel
theorem dX10_ownMark_68 : decode cX10_ownMark 68 = .ok (.invokevirtual 337, 3) := by decide +kernel
theorem dX10_ownMark_71 : decode cX10_ownMark 71 = .ok (.isub, 1) := by decide +kernel
theorem dX10_ownMark_72 : decode cX10_ownMark 72 = .ok (.goto 4, 3) := by decide +kernel
theorem dX10_ownMark_75 : decode cX10_ownMark 75 = .ok (.iload_n 2, 1) := by decide +kernel
theorem dX10_ownMark_76 : decode cX10_ownMark 76 = .ok (.ireturn, 1) := by decide +kernel
theorem dX10_ask_0 : decode cX10_ask 0 = .ok (.aload_n 0, 1) := by decide +kernel
theorem dX10_ask_1 : decode cX10_ask 1 = .ok (.iconst 0, 1) := by decide +kernel
theorem dX10_ask_2 : decode cX10_ask 2 = .ok (.putfield 62, 3) := by decide +kernel
theorem dX10_ask_5 : decode cX10_ask 5 = .ok (.aload_n 0, 1) := by decide +kernel
theorem dX10_ask_6 : decode cX10_ask 6 = .ok (.iload_n 1, 1) := by decide +kernel
theorem dX10_ask_7 : decode cX10_ask 7 = .ok (.iload_n 2, 1) := by decide +kernel
theorem dX10_ask_8 : decode cX10_ask 8 = .ok (.invokevirtual 220, 3) := by decide +kernel
theorem dX10_ask_11 : decode cX10_ask 11 = .ok (.ifCond .eq 13, 3) := by decide +kernel
theorem dX10_ask_14 : decode cX10_ask 14 = .ok (.iload_n 3, 1) := by decide +kernel
theorem dX10_ask_15 : decode cX10_ask 15 = .ok (.i2l, 1) := by decide +kernel
theorem dX10_ask_16 : decode cX10_ask 16 = .ok (.lconst 0, 1) := by decide +kernel
theorem dX10_ask_17 : decode cX10_ask 17 = .ok (.lconst 1, 1) := by decide +kernel
theorem dX10_ask_18 : decode cX10_ask 18 = .ok (.invokestatic 72, 3) := by decide +kernel
theorem dX10_ask_21 : decode cX10_ask 21 = .ok (.ifCond .ne 6, 3) := by decide +kernel
theorem dX10_ask_24 : decode cX10_ask 24 = .ok (.ldc 82, 2) := by decide +kernel
theorem dX10_ask_26 : decode cX10_ask 26 = .ok (.ireturn, 1) := by decide +kernel
theorem dX10_ask_27 : decode cX10_ask 27 = .ok (.aload_n 0, 1) := by decide +kernel
theorem dX10_ask_28 : decode cX10_ask 28 = .ok (.invokevirtual 307, 3) := by decide +kernel
theorem dX10_ask_31 : decode cX10_ask 31 = .ok (.ifCond .eq 6, 3) := by decide +kernel
theorem dX10_ask_34 : decode cX10_ask 34 = .ok (.ldc 230, 2) := by decide +kernel
theorem dX10_ask_36 : decode cX10_ask 36 = .ok (.ireturn, 1) := by decide +kernel
theorem dX10_ask_37 : decode cX10_ask 37 = .ok (.aload_n 0, 1) := by decide +kernel
theorem dX10_ask_38 : decode cX10_ask 38 = .ok (.iconst 0, 1) := by decide +kernel
theorem dX10_ask_39 : decode cX10_ask 39 = .ok (.putfield 319, 3) := by decide +kernel
theorem dX10_ask_42 : decode cX10_ask 42 = .ok (.aload_n 0, 1) := by decide +kernel
theorem dX10_ask_43 : decode cX10_ask 43 = .ok (.iload_n 1, 1) := by decide +kernel
theorem dX10_ask_44 : decode cX10_ask 44 = .ok (.iload_n 2, 1) := by decide +kernel
theorem dX10_ask_45 : decode cX10_ask 45 = .ok (.invokevirtual 311, 3) := by decide +kernel
theorem dX10_ask_48 : decode cX10_ask 48 = .ok (.istore 4, 2) := by decide +kernel
theorem dX10_ask_50 : decode cX10_ask 50 = .ok (.iload_n 3, 1) := by decide +kernel
theorem dX10_ask_51 : decode cX10_ask 51 = .ok (.iconst 1, 1) := by decide +kernel
theorem dX10_ask_52 : decode cX10_ask 52 = .ok (.if_icmp .ne 12, 3) := by decide +kernel
theorem dX10_ask_55 : decode cX10_ask 55 = .ok (.aload_n 0, 1) := by decide +kernel
theorem dX10_ask_56 : decode cX10_ask 56 = .ok (.iload_n 1, 1) := by decide +kernel
theorem dX10_ask_57 : decode cX10_ask 57 = .ok (.iload_n 2, 1) := by decide +kernel
theorem dX10_ask_58 : decode cX10_ask 58 = .ok (.iload 4, 2) := by decide +kernel
theorem dX10_ask_60 : decode cX10_ask 60 = .ok (.invokevirtual 340, 3) := by decide +kernel
theorem dX10_ask_63 : decode cX10_ask 63 = .ok (.ireturn, 1) := by decide +kernel
theorem dX10_ask_64 : decode cX10_ask 64 = .ok (.iload 4, 2) := by decide +kernel
theorem dX10_ask_66 : decode cX10_ask 66 = .ok (.iconst 1, 1) := by decide +kernel
theorem dX10_ask_67 : decode cX10_ask 67 = .ok (.if_icmp .ne 12, 3) := by decide +kernel
theorem dX10_ask_70 : decode cX10_ask 70 = .ok (.aload_n 0, 1) := by decide +kernel
theorem dX10_ask_71 : decode cX10_ask 71 = .ok (.iload_n 1, 1) := by decide +kernel
theorem dX10_ask_72 : decode cX10_ask 72 = .ok (.iload_n 2, 1) := by decide +kernel
theorem dX10_ask_73 : decode cX10_ask 73 = .ok (.invokevirtual 328, 3) := by decide +kernel
theorem dX10_ask_76 : decode cX10_ask 76 = .ok (.goto 41, 3) := by decide +kernel
theorem dX10_ask_79 : decode cX10_ask 79 = .ok (.iload 4, 2) := by decide +kernel
theorem dX10_ask_81 : decode cX10_ask 81 = .ok (.iconst 4, 1) := by decide +kernel
theorem dX10_ask_82 : decode cX10_ask 82 = .ok (.if_icmp .ne 12, 3) := by decide +kernel
theorem dX10_ask_85 : decode cX10_ask 85 = .ok (.aload_n 0, 1) := by decide +kernel
theorem dX10_ask_86 : decode cX10_ask 86 = .ok (.iload_n 1, 1) := by decide +kernel
theorem dX10_ask_87 : decode cX10_ask 87 = .ok (.iload_n 2, 1) := by decide +kernel
theorem dX10_ask_88 : decode cX10_ask 88 = .ok (.invokevirtual 337, 3) := by decide +kernel
theorem dX10_ask_91 : decode cX10_ask 91 = .ok (.goto 26, 3) := by decide +kernel
theorem dX10_ask_94 : decode cX10_ask 94 = .ok (.iload 4, 2) := by decide +kernel
theorem dX10_ask_96 : decode cX10_ask 96 = .ok (.iconst 5, 1) := by decide +kernel
theorem dX10_ask_97 : decode cX10_ask 97 = .ok (.if_icmp .ne 12, 3) := by decide +kernel
theorem dX10_ask_100 : decode cX10_ask 100 = .ok (.aload_n 0, 1) := by decide +kernel
theorem dX10_ask_101 : decode cX10_ask 101 = .ok (.iload_n 1, 1) := by decide +kernel
theorem dX10_ask_102 : decode cX10_ask 102 = .ok (.iload_n 2, 1) := by decide +kernel
theorem dX10_ask_103 : decode cX10_ask 103 = .ok (.invokevirtual 334, 3) := by decide +kernel
theorem dX10_ask_106 : decode cX10_ask 106 = .ok (.goto 11, 3) := by decide +kernel
theorem dX10_ask_109 : decode cX10_ask 109 = .ok (.aload_n 0, 1) := by decide +kernel
theorem dX10_ask_110 : decode cX10_ask 110 = .ok (.iload_n 1, 1) := by decide +kernel
theorem dX10_ask_111 : decode cX10_ask 111 = .ok (.iload_n 2, 1) := by decide +kernel
theorem dX10_ask_112 : decode cX10_ask 112 = .ok (.iload 4, 2) := by decide +kernel
theorem dX10_ask_114 : decode cX10_ask 114 = .ok (.invokevirtual 343, 3) := by decide +kernel
theorem dX10_ask_117 : decode cX10_ask 117 = .ok (.ireturn, 1) := by decide +kernel
theorem dX10_trace_0 : decode cX10_trace 0 = .ok (.aload_n 0, 1) := by decide +kernel
theorem dX10_trace_1 : decode cX10_trace 1 = .ok (.iconst 0, 1) := by decide +kernel
theorem dX10_trace_2 : decode cX10_trace 2 = .ok (.putfield 62, 3) := by decide +kernel
theorem dX10_trace_5 : decode cX10_trace 5 = .ok (.iload_n 1, 1) := by decide +kernel
theorem dX10_trace_6 : decode cX10_trace 6 = .ok (.i2l, 1) := by decide +kernel
theorem dX10_trace_7 : decode cX10_trace 7 = .ok (.lconst 0, 1) := by decide +kernel
theorem dX10_trace_8 : decode cX10_trace 8 = .ok (.aload_n 0, 1) := by decide +kernel
theorem dX10_trace_9 : decode cX10_trace 9 = .ok (.getfield 319, 3) := by decide +kernel
theorem dX10_trace_12 : decode cX10_trace 12 = .ok (.iconst 1, 1) := by decide +kernel
theorem dX10_trace_13 : decode cX10_trace 13 = .ok (.isub, 1) := by decide +kernel
theorem dX10_trace_14 : decode cX10_trace 14 = .ok (.i2l, 1) := by decide +kernel
theorem dX10_trace_15 : decode cX10_trace 15 = .ok (.invokestatic 72, 3) := by decide +kernel
theorem dX10_trace_18 : decode cX10_trace 18 = .ok (.ifCond .eq 12, 3) := by decide +kernel
theorem dX10_trace_21 : decode cX10_trace 21 = .ok (.aload_n 0, 1) := by decide +kernel
theorem dX10_trace_22 : decode cX10_trace 22 = .ok (.getfield 59, 3) := by decide +kernel
theorem dX10_trace_25 : decode cX10_trace 25 = .ok (.iload_n 1, 1) := by decide +kernel
theorem dX10_trace_26 : decode cX10_trace 26 = .ok (.iaload, 1) := by decide +kernel
theorem dX10_trace_27 : decode cX10_trace 27 = .ok (.goto 5, 3) := by decide +kernel
theorem dX10_trace_30 : decode cX10_trace 30 = .ok (.ldc 98, 2) := by decide +kernel
theorem dX10_trace_32 : decode cX10_trace 32 = .ok (.ireturn, 1) := by decide +kernel
theorem dX10_count_0 : decode cX10_count 0 = .ok (.aload_n 0, 1) := by decide +kernel
theorem dX10_count_1 : decode cX10_count 1 = .ok (.iconst 0, 1) := by decide +kernel
theorem dX10_count_2 : decode cX10_count 2 = .ok (.putfield 62, 3) := by decide +kernel
theorem dX10_count_5 : decode cX10_count 5 = .ok (.iconst 0, 1) := by decide +kernel
theorem dX10_count_6 : decode cX10_count 6 = .ok (.istore_n 2, 1) := by decide +kernel
theorem dX10_count_7 : decode cX10_count 7 = .ok (.iload_n 1, 1) := by decide +kernel
theorem dX10_count_8 : decode cX10_count 8 = .ok (.tableswitch 111 0 7 #[48, 81, 81, 81, 81, 90, 95, 103], 48) := by decide +kernel
theorem dX10_count_56 : decode cX10_count 56 = .ok (.iconst 0, 1) := by decide +kernel
theorem dX10_count_57 : decode cX10_count 57 = .ok (.istore_n 3, 1) := by decide +kernel
theorem dX10_count_58 : decode cX10_count 58 = .ok (.iload_n 3, 1) := by decide +kernel
theorem dX10_count_59 : decode cX10_count 59 = .ok (.bipush 8, 2) := by decide +kernel
theorem dX10_count_61 : decode cX10_count 61 = .ok (.if_icmp .ge 26, 3) := by decide +kernel
theorem dX10_count_64 : decode cX10_count 64 = .ok (.iload_n 2, 1) := by decide +kernel
theorem dX10_count_65 : decode cX10_count 65 = .ok (.aload_n 0, 1) := by decide +kernel
theorem dX10_count_66 : decode cX10_count 66 = .ok (.getfield 7, 3) := by decide +kernel
theorem dX10_count_69 : decode cX10_count 69 = .ok (.iload_n 3, 1) := by decide +kernel
theorem dX10_count_70 : decode cX10_count 70 = .ok (.iaload, 1) := by decide +kernel
theorem dX10_count_71 : decode cX10_count 71 = .ok (.ifCond .lt 7, 3) := by decide +kernel
theorem dX10_count_74 : decode cX10_count 74 = .ok (.iconst 1, 1) := by decide +kernel
theorem dX10_count_75 : decode cX10_count 75 = .ok (.goto 4, 3) := by decide +kernel
theorem dX10_count_78 : decode cX10_count 78 = .ok (.iconst 0, 1) := by decide +kernel
theorem dX10_count_79 : decode cX10_count 79 = .ok (.iadd, 1) := by decide +kernel
theorem dX10_count_80 : decode cX10_count 80 = .ok (.istore_n 2, 1) := by decide +kernel
theorem dX10_count_81 : decode cX10_count 81 = .ok (.iinc 3 1, 3) := by decide +kernel
theorem dX10_count_84 : decode cX10_count 84 = .ok (.goto (-26), 3) := by decide +kernel
theorem dX10_count_87 : decode cX10_count 87 = .ok (.iload_n 2, 1) := by decide +kernel
theorem dX10_count_88 : decode cX10_count 88 = .ok (.ireturn, 1) := by decide +kernel
theorem dX10_count_89 : decode cX10_count 89 = .ok (.aload_n 0, 1) := by decide +kernel
theorem dX10_count_90 : decode cX10_count 90 = .ok (.getfield 19, 3) := by decide +kernel
theorem dX10_count_93 : decode cX10_count 93 = .ok (.iload_n 1, 1) := by decide +kernel
theorem dX10_count_94 : decode cX10_count 94 = .ok (.iconst 1, 1) := by decide +kernel
theorem dX10_count_95 : decode cX10_count 95 = .ok (.isub, 1) := by decide +kernel
theorem dX10_count_96 : decode cX10_count 96 = .ok (.iaload, 1) := by decide +kernel
theorem dX10_count_97 : decode cX10_count 97 = .ok (.ireturn, 1) := by decide +kernel
theorem dX10_count_98 : decode cX10_count 98 = .ok (.aload_n 0, 1) := by decide +kernel
theorem dX10_count_99 : decode cX10_count 99 = .ok (.getfield 89, 3) := by decide +kernel
theorem dX10_count_102 : decode cX10_count 102 = .ok (.ireturn, 1) := by decide +kernel
theorem dX10_count_103 : decode cX10_count 103 = .ok (.aload_n 0, 1) := by decide +kernel
theorem dX10_count_104 : decode cX10_count 104 = .ok (.getfield 19, 3) := by decide +kernel
theorem dX10_count_107 : decode cX10_count 107 = .ok (.bipush 7, 2) := by decide +kernel
theorem dX10_count_109 : decode cX10_count 109 = .ok (.iaload, 1) := by decide +kernel
theorem dX10_count_110 : decode cX10_count 110 = .ok (.ireturn, 1) := by decide +kernel
theorem dX10_count_111 : decode cX10_count 111 = .ok (.aload_n 0, 1) := by decide +kernel
theorem dX10_count_112 : decode cX10_count 112 = .ok (.getfield 25, 3) := by decide +kernel
theorem dX10_count_115 : decode cX10_count 115 = .ok (.bipush 9, 2) := by decide +kernel
theorem dX10_count_117 : decode cX10_count 117 = .ok (.iaload, 1) := by decide +kernel
theorem dX10_count_118 : decode cX10_count 118 = .ok (.ireturn, 1) := by decide +kernel
theorem dX10_count_119 : decode cX10_count 119 = .ok (.ldc 82, 2) := by decide +kernel
theorem dX10_count_121 : decode cX10_count 121 = .ok (.ireturn, 1) := by decide +kernel
theorem dX10_status_0 : decode cX10_status 0 = .ok (.aload_n 0, 1) := by decide +kernel
theorem dX10_status_1 : decode cX10_status 1 = .ok (.iconst 0, 1) := by decide +kernel
theorem dX10_status_2 : decode cX10_status 2 = .ok (.putfield 62, 3) := by decide +kernel
theorem dX10_status_5 : decode cX10_status 5 = .ok (.aload_n 0, 1) := by decide +kernel
theorem dX10_status_6 : decode cX10_status 6 = .ok (.getfield 66, 3) := by decide +kernel
theorem dX10_status_9 : decode cX10_status 9 = .ok (.ireturn, 1) := by decide +kernel
