theorem dX10_init_0 : decode cX10_init 0 = .ok (.aload_n 0, 1) := by decide +kernel
theorem dX10_init_1 : decode cX10_init 1 = .ok (.invokespecial 1, 3) := by decide +kernel
theorem dX10_init_4 : decode cX10_init 4 = .ok (.aload_n 0, 1) := by decide +kernel
theorem dX10_init_5 : decode cX10_init 5 = .ok (.bipush 8, 2) := by decide +kernel
theorem dX10_init_7 : decode cX10_init 7 = .ok (.newarray .int, 2) := by decide +kernel
theorem dX10_init_9 : decode cX10_init 9 = .ok (.dup, 1) := by decide +kernel
theorem dX10_init_10 : decode cX10_init 10 = .ok (.iconst 0, 1) := by decide +kernel
theorem dX10_init_11 : decode cX10_init 11 = .ok (.iconst (-1), 1) := by decide +kernel
theorem dX10_init_12 : decode cX10_init 12 = .ok (.iastore, 1) := by decide +kernel
theorem dX10_init_13 : decode cX10_init 13 = .ok (.dup, 1) := by decide +kernel
theorem dX10_init_14 : decode cX10_init 14 = .ok (.iconst 1, 1) := by decide +kernel
theorem dX10_init_15 : decode cX10_init 15 = .ok (.iconst (-1), 1) := by decide +kernel
theorem dX10_init_16 : decode cX10_init 16 = .ok (.iastore, 1) := by decide +kernel
theorem dX10_init_17 : decode cX10_init 17 = .ok (.dup, 1) := by decide +kernel
theorem dX10_init_18 : decode cX10_init 18 = .ok (.iconst 2, 1) := by decide +kernel
theorem dX10_init_19 : decode cX10_init 19 = .ok (.iconst (-1), 1) := by decide +kernel
theorem dX10_init_20 : decode cX10_init 20 = .ok (.iastore, 1) := by decide +kernel
theorem dX10_init_21 : decode cX10_init 21 = .ok (.dup, 1) := by decide +kernel
theorem dX10_init_22 : decode cX10_init 22 = .ok (.iconst 3, 1) := by decide +kernel
theorem dX10_init_23 : decode cX10_init 23 = .ok (.iconst (-1), 1) := by decide +kernel
theorem dX10_init_24 : decode cX10_init 24 = .ok (.iastore, 1) := by decide +kernel
theorem dX10_init_25 : decode cX10_init 25 = .ok (.dup, 1) := by decide +kernel
theorem dX10_init_26 : decode cX10_init 26 = .ok (.iconst 4, 1) := by decide +kernel
theorem dX10_init_27 : decode cX10_init 27 = .ok (.iconst (-1), 1) := by decide +kernel
theorem dX10_init_28 : decode cX10_init 28 = .ok (.iastore, 1) := by decide +kernel
theorem dX10_init_29 : decode cX10_init 29 = .ok (.dup, 1) := by decide +kernel
theorem dX10_init_30 : decode cX10_init 30 = .ok (.iconst 5, 1) := by decide +kernel
theorem dX10_init_31 : decode cX10_init 31 = .ok (.iconst (-1), 1) := by decide +kernel
theorem dX10_init_32 : decode cX10_init 32 = .ok (.iastore, 1) := by decide +kernel
theorem dX10_init_33 : decode cX10_init 33 = .ok (.dup, 1) := by decide +kernel
theorem dX10_init_34 : decode cX10_init 34 = .ok (.bipush 6, 2) := by decide +kernel
theorem dX10_init_36 : decode cX10_init 36 = .ok (.iconst (-1), 1) := by decide +kernel
theorem dX10_init_37 : decode cX10_init 37 = .ok (.iastore, 1) := by decide +kernel
theorem dX10_init_38 : decode cX10_init 38 = .ok (.dup, 1) := by decide +kernel
theorem dX10_init_39 : decode cX10_init 39 = .ok (.bipush 7, 2) := by decide +kernel
theorem dX10_init_41 : decode cX10_init 41 = .ok (.iconst (-1), 1) := by decide +kernel
theorem dX10_init_42 : decode cX10_init 42 = .ok (.iastore, 1) := by decide +kernel
theorem dX10_init_43 : decode cX10_init 43 = .ok (.putfield 7, 3) := by decide +kernel
theorem dX10_init_46 : decode cX10_init 46 = .ok (.aload_n 0, 1) := by decide +kernel
theorem dX10_init_47 : decode cX10_init 47 = .ok (.bipush 8, 2) := by decide +kernel
theorem dX10_init_49 : decode cX10_init 49 = .ok (.newarray .int, 2) := by decide +kernel
theorem dX10_init_51 : decode cX10_init 51 = .ok (.putfield 13, 3) := by decide +kernel
theorem dX10_init_54 : decode cX10_init 54 = .ok (.aload_n 0, 1) := by decide +kernel
theorem dX10_init_55 : decode cX10_init 55 = .ok (.sipush 320, 3) := by decide +kernel
theorem dX10_init_58 : decode cX10_init 58 = .ok (.newarray .int, 2) := by decide +kernel
theorem dX10_init_60 : decode cX10_init 60 = .ok (.putfield 16, 3) := by decide +kernel
theorem dX10_init_63 : decode cX10_init 63 = .ok (.aload_n 0, 1) := by decide +kernel
theorem dX10_init_64 : decode cX10_init 64 = .ok (.sipush 136, 3) := by decide +kernel
theorem dX10_init_67 : decode cX10_init 67 = .ok (.newarray .int, 2) := by decide +kernel
theorem dX10_init_69 : decode cX10_init 69 = .ok (.putfield 19, 3) := by decide +kernel
theorem dX10_init_72 : decode cX10_init 72 = .ok (.aload_n 0, 1) := by decide +kernel
theorem dX10_init_73 : decode cX10_init 73 = .ok (.sipush 136, 3) := by decide +kernel
theorem dX10_init_76 : decode cX10_init 76 = .ok (.newarray .int, 2) := by decide +kernel
theorem dX10_init_78 : decode cX10_init 78 = .ok (.putfield 22, 3) := by decide +kernel
theorem dX10_init_81 : decode cX10_init 81 = .ok (.aload_n 0, 1) := by decide +kernel
theorem dX10_init_82 : decode cX10_init 82 = .ok (.sipush 370, 3) := by decide +kernel
theorem dX10_init_85 : decode cX10_init 85 = .ok (.newarray .int, 2) := by decide +kernel
theorem dX10_init_87 : decode cX10_init 87 = .ok (.putfield 25, 3) := by decide +kernel
theorem dX10_init_90 : decode cX10_init 90 = .ok (.aload_n 0, 1) := by decide +kernel
theorem dX10_init_91 : decode cX10_init 91 = .ok (.sipush 700, 3) := by decide +kernel
theorem dX10_init_94 : decode cX10_init 94 = .ok (.newarray .int, 2) := by decide +kernel
theorem dX10_init_96 : decode cX10_init 96 = .ok (.putfield 28, 3) := by decide +kernel
theorem dX10_init_99 : decode cX10_init 99 = .ok (.aload_n 0, 1) := by decide +kernel
theorem dX10_init_100 : decode cX10_init 100 = .ok (.iconst 2, 1) := by decide +kernel
theorem dX10_init_101 : decode cX10_init 101 = .ok (.newarray .int, 2) := by decide +kernel
theorem dX10_init_103 : decode cX10_init 103 = .ok (.putfield 31, 3) := by decide +kernel
theorem dX10_init_106 : decode cX10_init 106 = .ok (.aload_n 0, 1) := by decide +kernel
theorem dX10_init_107 : decode cX10_init 107 = .ok (.sipush 370, 3) := by decide +kernel
theorem dX10_init_110 : decode cX10_init 110 = .ok (.newarray .int, 2) := by decide +kernel
theorem dX10_init_112 : decode cX10_init 112 = .ok (.putfield 34, 3) := by decide +kernel
theorem dX10_init_115 : decode cX10_init 115 = .ok (.aload_n 0, 1) := by decide +kernel
theorem dX10_init_116 : decode cX10_init 116 = .ok (.iconst 4, 1) := by decide +kernel
theorem dX10_init_117 : decode cX10_init 117 = .ok (.newarray .int, 2) := by decide +kernel
theorem dX10_init_119 : decode cX10_init 119 = .ok (.putfield 37, 3) := by decide +kernel
theorem dX10_init_122 : decode cX10_init 122 = .ok (.aload_n 0, 1) := by decide +kernel
theorem dX10_init_123 : decode cX10_init 123 = .ok (.sipush 256, 3) := by decide +kernel
theorem dX10_init_126 : decode cX10_init 126 = .ok (.newarray .int, 2) := by decide +kernel
theorem dX10_init_128 : decode cX10_init 128 = .ok (.putfield 40, 3) := by decide +kernel
theorem dX10_init_131 : decode cX10_init 131 = .ok (.aload_n 0, 1) := by decide +kernel
theorem dX10_init_132 : decode cX10_init 132 = .ok (.bipush 100, 2) := by decide +kernel
theorem dX10_init_134 : decode cX10_init 134 = .ok (.newarray .int, 2) := by decide +kernel
theorem dX10_init_136 : decode cX10_init 136 = .ok (.putfield 43, 3) := by decide +kernel
theorem dX10_init_139 : decode cX10_init 139 = .ok (.aload_n 0, 1) := by decide +kernel
theorem dX10_init_140 : decode cX10_init 140 = .ok (.bipush 100, 2) := by decide +kernel
theorem dX10_init_142 : decode cX10_init 142 = .ok (.newarray .int, 2) := by decide +kernel
theorem dX10_init_144 : decode cX10_init 144 = .ok (.putfield 46, 3) := by decide +kernel
theorem dX10_init_147 : decode cX10_init 147 = .ok (.aload_n 0, 1) := by decide +kernel
theorem dX10_init_148 : decode cX10_init 148 = .ok (.iconst 2, 1) := by decide +kernel
theorem dX10_init_149 : decode cX10_init 149 = .ok (.newarray .boolean, 2) := by decide +kernel
theorem dX10_init_151 : decode cX10_init 151 = .ok (.putfield 49, 3) := by decide +kernel
theorem dX10_init_154 : decode cX10_init 154 = .ok (.aload_n 0, 1) := by decide +kernel
theorem dX10_init_155 : decode cX10_init 155 = .ok (.sipush 272, 3) := by decide +kernel
theorem dX10_init_158 : decode cX10_init 158 = .ok (.newarray .int, 2) := by decide +kernel
theorem dX10_init_160 : decode cX10_init 160 = .ok (.putfield 53, 3) := by decide +kernel
theorem dX10_init_163 : decode cX10_init 163 = .ok (.aload_n 0, 1) := by decide +kernel
theorem dX10_init_164 : decode cX10_init 164 = .ok (.sipush 740, 3) := by decide +kernel
theorem dX10_init_167 : decode cX10_init 167 = .ok (.newarray .int, 2) := by decide +kernel
theorem dX10_init_169 : decode cX10_init 169 = .ok (.putfield 56, 3) := by decide +kernel
theorem dX10_init_172 : decode cX10_init 172 = .ok (.aload_n 0, 1) := by decide +kernel
theorem dX10_init_173 : decode cX10_init 173 = .ok (.bipush 16, 2) := by decide +kernel
theorem dX10_init_175 : decode cX10_init 175 = .ok (.newarray .int, 2) := by decide +kernel
theorem dX10_init_177 : decode cX10_init 177 = .ok (.putfield 59, 3) := by decide +kernel
theorem dX10_init_180 : decode cX10_init 180 = .ok (.return_, 1) := by decide +kernel
theorem dX10_in_0 : decode cX10_in 0 = .ok (.lload_n 0, 1) := by decide +kernel
theorem dX10_in_1 : decode cX10_in 1 = .ok (.lload_n 2, 1) := by decide +kernel
theorem dX10_in_2 : decode cX10_in 2 = .ok (.lcmp, 1) := by decide +kernel
theorem dX10_in_3 : decode cX10_in 3 = .ok (.ifCond .lt 14, 3) := by decide +kernel
theorem dX10_in_6 : decode cX10_in 6 = .ok (.lload_n 0, 1) := by decide +kernel
theorem dX10_in_7 : decode cX10_in 7 = .ok (.lload 4, 2) := by decide +kernel
theorem dX10_in_9 : decode cX10_in 9 = .ok (.lcmp, 1) := by decide +kernel
theorem dX10_in_10 : decode cX10_in 10 = .ok (.ifCond .gt 7, 3) := by decide +kernel
theorem dX10_in_13 : decode cX10_in 13 = .ok (.iconst 1, 1) := by decide +kernel
theorem dX10_in_14 : decode cX10_in 14 = .ok (.goto 4, 3) := by decide +kernel
theorem dX10_in_17 : decode cX10_in 17 = .ok (.iconst 0, 1) := by decide +kernel
theorem dX10_in_18 : decode cX10_in 18 = .ok (.ireturn, 1) := by decide +kernel
theorem dX10_finding_0 : decode cX10_finding 0 = .ok (.aload_n 0, 1) := by decide +kernel
theorem dX10_finding_1 : decode cX10_finding 1 = .ok (.iload_n 1, 1) := by decide +kernel
theorem dX10_finding_2 : decode cX10_finding 2 = .ok (.putfield 66, 3) := by decide +kernel
theorem dX10_finding_5 : decode cX10_finding 5 = .ok (.ldc 69, 2) := by decide +kernel
theorem dX10_finding_7 : decode cX10_finding 7 = .ok (.iload_n 1, 1) := by decide +kernel
theorem dX10_finding_8 : decode cX10_finding 8 = .ok (.isub, 1) := by decide +kernel
theorem dX10_finding_9 : decode cX10_finding 9 = .ok (.ireturn, 1) := by decide +kernel
theorem dX10_isSheet_0 : decode cX10_isSheet 0 = .ok (.iload_n 0, 1) := by decide +kernel
theorem dX10_isSheet_1 : decode cX10_isSheet 1 = .ok (.i2l, 1) := by decide +kernel
theorem dX10_isSheet_2 : decode cX10_isSheet 2 = .ok (.lconst 0, 1) := by decide +kernel
theorem dX10_isSheet_3 : decode cX10_isSheet 3 = .ok (.ldc2_w 70, 3) := by decide +kernel
theorem dX10_isSheet_6 : decode cX10_isSheet 6 = .ok (.invokestatic 72, 3) := by decide +kernel
theorem dX10_isSheet_9 : decode cX10_isSheet 9 = .ok (.ireturn, 1) := by decide +kernel
theorem dX10_sheet_0 : decode cX10_sheet 0 = .ok (.aload_n 0, 1) := by decide +kernel
theorem dX10_sheet_1 : decode cX10_sheet 1 = .ok (.iconst 0, 1) := by decide +kernel
theorem dX10_sheet_2 : decode cX10_sheet 2 = .ok (.putfield 62, 3) := by decide +kernel
theorem dX10_sheet_5 : decode cX10_sheet 5 = .ok (.iload_n 1, 1) := by decide +kernel
theorem dX10_sheet_6 : decode cX10_sheet 6 = .ok (.invokestatic 76, 3) := by decide +kernel
theorem dX10_sheet_9 : decode cX10_sheet 9 = .ok (.ifCond .eq 21, 3) := by decide +kernel
theorem dX10_sheet_12 : decode cX10_sheet 12 = .ok (.iload_n 2, 1) := by decide +kernel
theorem dX10_sheet_13 : decode cX10_sheet 13 = .ok (.i2l, 1) := by decide +kernel
theorem dX10_sheet_14 : decode cX10_sheet 14 = .ok (.lconst 0, 1) := by decide +kernel
theorem dX10_sheet_15 : decode cX10_sheet 15 = .ok (.ldc2_w 80, 3) := by decide +kernel
theorem dX10_sheet_18 : decode cX10_sheet 18 = .ok (.invokestatic 72, 3) := by decide +kernel
theorem dX10_sheet_21 : decode cX10_sheet 21 = .ok (.ifCond .eq 9, 3) := by decide +kernel
theorem dX10_sheet_24 : decode cX10_sheet 24 = .ok (.iload_n 3, 1) := by decide +kernel
theorem dX10_sheet_25 : decode cX10_sheet 25 = .ok (.bipush 40, 2) := by decide +kernel
theorem dX10_sheet_27 : decode cX10_sheet 27 = .ok (.if_icmp .le 6, 3) := by decide +kernel
theorem dX10_sheet_30 : decode cX10_sheet 30 = .ok (.ldc 82, 2) := by decide +kernel
theorem dX10_sheet_32 : decode cX10_sheet 32 = .ok (.ireturn, 1) := by decide +kernel
theorem dX10_sheet_33 : decode cX10_sheet 33 = .ok (.aload_n 0, 1) := by decide +kernel
theorem dX10_sheet_34 : decode cX10_sheet 34 = .ok (.iconst 0, 1) := by decide +kernel
theorem dX10_sheet_35 : decode cX10_sheet 35 = .ok (.putfield 66, 3) := by decide +kernel
theorem dX10_sheet_38 : decode cX10_sheet 38 = .ok (.iload_n 3, 1) := by decide +kernel
theorem dX10_sheet_39 : decode cX10_sheet 39 = .ok (.ifCond .ge 9, 3) := by decide +kernel
theorem dX10_sheet_42 : decode cX10_sheet 42 = .ok (.aload_n 0, 1) := by decide +kernel
theorem dX10_sheet_43 : decode cX10_sheet 43 = .ok (.iconst 4, 1) := by decide +kernel
theorem dX10_sheet_44 : decode cX10_sheet 44 = .ok (.invokevirtual 83, 3) := by decide +kernel
theorem dX10_sheet_47 : decode cX10_sheet 47 = .ok (.ireturn, 1) := by decide +kernel
theorem dX10_sheet_48 : decode cX10_sheet 48 = .ok (.aload_n 0, 1) := by decide +kernel
theorem dX10_sheet_49 : decode cX10_sheet 49 = .ok (.getfield 7, 3) := by decide +kernel
theorem dX10_sheet_52 : decode cX10_sheet 52 = .ok (.iload_n 1, 1) := by decide +kernel
theorem dX10_sheet_53 : decode cX10_sheet 53 = .ok (.iload_n 2, 1) := by decide +kernel
theorem dX10_sheet_54 : decode cX10_sheet 54 = .ok (.iastore, 1) := by decide +kernel
theorem dX10_sheet_55 : decode cX10_sheet 55 = .ok (.aload_n 0, 1) := by decide +kernel
theorem dX10_sheet_56 : decode cX10_sheet 56 = .ok (.getfield 13, 3) := by decide +kernel
theorem dX10_sheet_59 : decode cX10_sheet 59 = .ok (.iload_n 1, 1) := by decide +kernel
theorem dX10_sheet_60 : decode cX10_sheet 60 = .ok (.iload_n 3, 1) := by decide +kernel
theorem dX10_sheet_61 : decode cX10_sheet 61 = .ok (.iastore, 1) := by decide +kernel
theorem dX10_sheet_62 : decode cX10_sheet 62 = .ok (.iconst 0, 1) := by decide +kernel
theorem dX10_sheet_63 : decode cX10_sheet 63 = .ok (.istore 4, 2) := by decide +kernel
theorem dX10_sheet_65 : decode cX10_sheet 65 = .ok (.iload 4, 2) := by decide +kernel
theorem dX10_sheet_67 : decode cX10_sheet 67 = .ok (.bipush 40, 2) := by decide +kernel
theorem dX10_sheet_69 : decode cX10_sheet 69 = .ok (.if_icmp .ge 22, 3) := by decide +kernel
theorem dX10_sheet_72 : decode cX10_sheet 72 = .ok (.aload_n 0, 1) := by decide +kernel
theorem dX10_sheet_73 : decode cX10_sheet 73 = .ok (.getfield 16, 3) := by decide +kernel
theorem dX10_sheet_76 : decode cX10_sheet 76 = .ok (.bipush 40, 2) := by decide +kernel
theorem dX10_sheet_78 : decode cX10_sheet 78 = .ok (.iload_n 1, 1) := by decide +kernel
theorem dX10_sheet_79 : decode cX10_sheet 79 = .ok (.imul, 1) := by decide +kernel
theorem dX10_sheet_80 : decode cX10_sheet 80 = .ok (.iload 4, 2) := by decide +kernel
theorem dX10_sheet_82 : decode cX10_sheet 82 = .ok (.iadd, 1) := by decide +kernel
theorem dX10_sheet_83 : decode cX10_sheet 83 = .ok (.iconst 0, 1) := by decide +kernel
theorem dX10_sheet_84 : decode cX10_sheet 84 = .ok (.iastore, 1) := by decide +kernel
theorem dX10_sheet_85 : decode cX10_sheet 85 = .ok (.iinc 4 1, 3) := by decide +kernel
theorem dX10_sheet_88 : decode cX10_sheet 88 = .ok (.goto (-23), 3) := by decide +kernel
theorem dX10_sheet_91 : decode cX10_sheet 91 = .ok (.iload_n 3, 1) := by decide +kernel
theorem dX10_sheet_92 : decode cX10_sheet 92 = .ok (.ireturn, 1) := by decide +kernel
theorem dX10_set_0 : decode cX10_set 0 = .ok (.aload_n 0, 1) := by decide +kernel
theorem dX10_set_1 : decode cX10_set 1 = .ok (.iconst 0, 1) := by decide +kernel
theorem dX10_set_2 : decode cX10_set 2 = .ok (.putfield 62, 3) := by decide +kernel
theorem dX10_set_5 : decode cX10_set 5 = .ok (.iload_n 1, 1) := by decide +kernel
theorem dX10_set_6 : decode cX10_set 6 = .ok (.invokestatic 76, 3) := by decide +kernel
theorem dX10_set_9 : decode cX10_set 9 = .ok (.ifCond .ne 6, 3) := by decide +kernel
theorem dX10_set_12 : decode cX10_set 12 = .ok (.ldc 82, 2) := by decide +kernel
theorem dX10_set_14 : decode cX10_set 14 = .ok (.ireturn, 1) := by decide +kernel
theorem dX10_set_15 : decode cX10_set 15 = .ok (.aload_n 0, 1) := by decide +kernel
theorem dX10_set_16 : decode cX10_set 16 = .ok (.iconst 0, 1) := by decide +kernel
theorem dX10_set_17 : decode cX10_set 17 = .ok (.putfield 66, 3) := by decide +kernel
theorem dX10_set_20 : decode cX10_set 20 = .ok (.aload_n 0, 1) := by decide +kernel
theorem dX10_set_21 : decode cX10_set 21 = .ok (.getfield 7, 3) := by decide +kernel
theorem dX10_set_24 : decode cX10_set 24 = .ok (.iload_n 1, 1) := by decide +kernel
theorem dX10_set_25 : decode cX10_set 25 = .ok (.iaload, 1) := by decide +kernel
theorem dX10_set_26 : decode cX10_set 26 = .ok (.ifCond .ge 9, 3) := by decide +kernel
theorem dX10_set_29 : decode cX10_set 29 = .ok (.aload_n 0, 1) := by decide +kernel
theorem dX10_set_30 : decode cX10_set 30 = .ok (.iconst 1, 1) := by decide +kernel
theorem dX10_set_31 : decode cX10_set 31 = .ok (.invokevirtual 83, 3) := by decide +kernel
theorem dX10_set_34 : decode cX10_set 34 = .ok (.ireturn, 1) := by decide +kernel
theorem dX10_set_35 : decode cX10_set 35 = .ok (.iload_n 2, 1) := by decide +kernel
theorem dX10_set_36 : decode cX10_set 36 = .ok (.i2l, 1) := by decide +kernel
theorem dX10_set_37 : decode cX10_set 37 = .ok (.lconst 0, 1) := by decide +kernel
theorem dX10_set_38 : decode cX10_set 38 = .ok (.aload_n 0, 1) := by decide +kernel
theorem dX10_set_39 : decode cX10_set 39 = .ok (.getfield 13, 3) := by decide +kernel
theorem dX10_set_42 : decode cX10_set 42 = .ok (.iload_n 1, 1) := by decide +kernel
theorem dX10_set_43 : decode cX10_set 43 = .ok (.iaload, 1) := by decide +kernel
theorem dX10_set_44 : decode cX10_set 44 = .ok (.iconst 1, 1) := by decide +kernel
theorem dX10_set_45 : decode cX10_set 45 = .ok (.isub, 1) := by decide +kernel
theorem dX10_set_46 : decode cX10_set 46 = .ok (.i2l, 1) := by decide +kernel
theorem dX10_set_47 : decode cX10_set 47 = .ok (.invokestatic 72, 3) := by decide +kernel
theorem dX10_set_50 : decode cX10_set 50 = .ok (.ifCond .ne 9, 3) := by decide +kernel
theorem dX10_set_53 : decode cX10_set 53 = .ok (.aload_n 0, 1) := by decide +kernel
theorem dX10_set_54 : decode cX10_set 54 = .ok (.iconst 2, 1) := by decide +kernel
theorem dX10_set_55 : decode cX10_set 55 = .ok (.invokevirtual 83, 3) := by decide +kernel
theorem dX10_set_58 : decode cX10_set 58 = .ok (.ireturn, 1) := by decide +kernel
theorem dX10_set_59 : decode cX10_set 59 = .ok (.aload_n 0, 1) := by decide +kernel
theorem dX10_set_60 : decode cX10_set 60 = .ok (.getfield 16, 3) := by decide +kernel
theorem dX10_set_63 : decode cX10_set 63 = .ok (.bipush 40, 2) := by decide +kernel
theorem dX10_set_65 : decode cX10_set 65 = .ok (.iload_n 1, 1) := by decide +kernel
theorem dX10_set_66 : decode cX10_set 66 = .ok (.imul, 1) := by decide +kernel
theorem dX10_set_67 : decode cX10_set 67 = .ok (.iload_n 2, 1) := by decide +kernel
theorem dX10_set_68 : decode cX10_set 68 = .ok (.iadd, 1) := by decide +kernel
theorem dX10_set_69 : decode cX10_set 69 = .ok (.aload_n 0, 1) := by decide +kernel
theorem dX10_set_70 : decode cX10_set 70 = .ok (.getfield 7, 3) := by decide +kernel
theorem dX10_set_73 : decode cX10_set 73 = .ok (.iload_n 1, 1) := by decide +kernel
theorem dX10_set_74 : decode cX10_set 74 = .ok (.iaload, 1) := by decide +kernel
theorem dX10_set_75 : decode cX10_set 75 = .ok (.ifCond .ne 8, 3) := by decide +kernel
theorem dX10_set_78 : decode cX10_set 78 = .ok (.iload_n 3, 1) := by decide +kernel
theorem dX10_set_79 : decode cX10_set 79 = .ok (.i2b, 1) := by decide +kernel
theorem dX10_set_80 : decode cX10_set 80 = .ok (.goto 19, 3) := by decide +kernel
theorem dX10_set_83 : decode cX10_set 83 = .ok (.aload_n 0, 1) := by decide +kernel
theorem dX10_set_84 : decode cX10_set 84 = .ok (.getfield 7, 3) := by decide +kernel
theorem dX10_set_87 : decode cX10_set 87 = .ok (.iload_n 1, 1) := by decide +kernel
theorem dX10_set_88 : decode cX10_set 88 = .ok (.iaload, 1) := by decide +kernel
theorem dX10_set_89 : decode cX10_set 89 = .ok (.iconst 1, 1) := by decide +kernel
theorem dX10_set_90 : decode cX10_set 90 = .ok (.if_icmp .ne 8, 3) := by decide +kernel
theorem dX10_set_93 : decode cX10_set 93 = .ok (.iload_n 3, 1) := by decide +kernel
theorem dX10_set_94 : decode cX10_set 94 = .ok (.i2s, 1) := by decide +kernel
theorem dX10_set_95 : decode cX10_set 95 = .ok (.goto 4, 3) := by decide +kernel
theorem dX10_set_98 : decode cX10_set 98 = .ok (.iload_n 3, 1) := by decide +kernel
theorem dX10_set_99 : decode cX10_set 99 = .ok (.iastore, 1) := by decide +kernel
theorem dX10_set_100 : decode cX10_set 100 = .ok (.aload_n 0, 1) := by decide +kernel
theorem dX10_set_101 : decode cX10_set 101 = .ok (.getfield 16, 3) := by decide +kernel
theorem dX10_set_104 : decode cX10_set 104 = .ok (.bipush 40, 2) := by decide +kernel
theorem dX10_set_106 : decode cX10_set 106 = .ok (.iload_n 1, 1) := by decide +kernel
theorem dX10_set_107 : decode cX10_set 107 = .ok (.imul, 1) := by decide +kernel
theorem dX10_set_108 : decode cX10_set 108 = .ok (.iload_n 2, 1) := by decide +kernel
theorem dX10_set_109 : decode cX10_set 109 = .ok (.iadd, 1) := by decide +kernel
theorem dX10_set_110 : decode cX10_set 110 = .ok (.iaload, 1) := by decide +kernel
theorem dX10_set_111 : decode cX10_set 111 = .ok (.ireturn, 1) := by decide +kernel
theorem dX10_copy_0 : decode cX10_copy 0 = .ok (.aload_n 0, 1) := by decide +kernel
theorem dX10_copy_1 : decode cX10_copy 1 = .ok (.iconst 0, 1) := by decide +kernel
theorem dX10_copy_2 : decode cX10_copy 2 = .ok (.putfield 62, 3) := by decide +kernel
theorem dX10_copy_5 : decode cX10_copy 5 = .ok (.iload_n 1, 1) := by decide +kernel
theorem dX10_copy_6 : decode cX10_copy 6 = .ok (.invokestatic 76, 3) := by decide +kernel
theorem dX10_copy_9 : decode cX10_copy 9 = .ok (.ifCond .eq 10, 3) := by decide +kernel
theorem dX10_copy_12 : decode cX10_copy 12 = .ok (.iload_n 3, 1) := by decide +kernel
theorem dX10_copy_13 : decode cX10_copy 13 = .ok (.invokestatic 76, 3) := by decide +kernel
theorem dX10_copy_16 : decode cX10_copy 16 = .ok (.ifCond .ne 6, 3) := by decide +kernel
theorem dX10_copy_19 : decode cX10_copy 19 = .ok (.ldc 82, 2) := by decide +kernel
theorem dX10_copy_21 : decode cX10_copy 21 = .ok (.ireturn, 1) := by decide +kernel
theorem dX10_copy_22 : decode cX10_copy 22 = .ok (.aload_n 0, 1) := by decide +kernel
theorem dX10_copy_23 : decode cX10_copy 23 = .ok (.iconst 0, 1) := by decide +kernel
theorem dX10_copy_24 : decode cX10_copy 24 = .ok (.putfield 66, 3) := by decide +kernel
theorem dX10_copy_27 : decode cX10_copy 27 = .ok (.aload_n 0, 1) := by decide +kernel
theorem dX10_copy_28 : decode cX10_copy 28 = .ok (.getfield 7, 3) := by decide +kernel
theorem dX10_copy_31 : decode cX10_copy 31 = .ok (.iload_n 1, 1) := by decide +kernel
theorem dX10_copy_32 : decode cX10_copy 32 = .ok (.iaload, 1) := by decide +kernel
theorem dX10_copy_33 : decode cX10_copy 33 = .ok (.ifCond .lt 12, 3) := by decide +kernel
theorem dX10_copy_36 : decode cX10_copy 36 = .ok (.aload_n 0, 1) := by decide +kernel
theorem dX10_copy_37 : decode cX10_copy 37 = .ok (.getfield 7, 3) := by decide +kernel
theorem dX10_copy_40 : decode cX10_copy 40 = .ok (.iload_n 3, 1) := by decide +kernel
theorem dX10_copy_41 : decode cX10_copy 41 = .ok (.iaload, 1) := by decide +kernel
theorem dX10_copy_42 : decode cX10_copy 42 = .ok (.ifCond .ge 9, 3) := by decide +kernel
theorem dX10_copy_45 : decode cX10_copy 45 = .ok (.aload_n 0, 1) := by decide +kernel
theorem dX10_copy_46 : decode cX10_copy 46 = .ok (.iconst 1, 1) := by decide +kernel
theorem dX10_copy_47 : decode cX10_copy 47 = .ok (.invokevirtual 83, 3) := by decide +kernel
theorem dX10_copy_50 : decode cX10_copy 50 = .ok (.ireturn, 1) := by decide +kernel
theorem dX10_copy_51 : decode cX10_copy 51 = .ok (.aload_n 0, 1) := by decide +kernel
theorem dX10_copy_52 : decode cX10_copy 52 = .ok (.getfield 7, 3) := by decide +kernel
theorem dX10_copy_55 : decode cX10_copy 55 = .ok (.iload_n 1, 1) := by decide +kernel
theorem dX10_copy_56 : decode cX10_copy 56 = .ok (.iaload, 1) := by decide +kernel
theorem dX10_copy_57 : decode cX10_copy 57 = .ok (.aload_n 0, 1) := by decide +kernel
theorem dX10_copy_58 : decode cX10_copy 58 = .ok (.getfield 7, 3) := by decide +kernel
theorem dX10_copy_61 : decode cX10_copy 61 = .ok (.iload_n 3, 1) := by decide +kernel
theorem dX10_copy_62 : decode cX10_copy 62 = .ok (.iaload, 1) := by decide +kernel
theorem dX10_copy_63 : decode cX10_copy 63 = .ok (.if_icmp .eq 9, 3) := by decide +kernel
theorem dX10_copy_66 : decode cX10_copy 66 = .ok (.aload_n 0, 1) := by decide +kernel
theorem dX10_copy_67 : decode cX10_copy 67 = .ok (.iconst 5, 1) := by decide +kernel
theorem dX10_copy_68 : decode cX10_copy 68 = .ok (.invokevirtual 83, 3) := by decide +kernel
theorem dX10_copy_71 : decode cX10_copy 71 = .ok (.ireturn, 1) := by decide +kernel
theorem dX10_copy_72 : decode cX10_copy 72 = .ok (.iload_n 2, 1) := by decide +kernel
theorem dX10_copy_73 : decode cX10_copy 73 = .ok (.ifCond .lt 48, 3) := by decide +kernel
theorem dX10_copy_76 : decode cX10_copy 76 = .ok (.iload 4, 2) := by decide +kernel
theorem dX10_copy_78 : decode cX10_copy 78 = .ok (.ifCond .lt 43, 3) := by decide +kernel
theorem dX10_copy_81 : decode cX10_copy 81 = .ok (.iload 5, 2) := by decide +kernel
theorem dX10_copy_83 : decode cX10_copy 83 = .ok (.ifCond .lt 38, 3) := by decide +kernel
theorem dX10_copy_86 : decode cX10_copy 86 = .ok (.iload_n 2, 1) := by decide +kernel
theorem dX10_copy_87 : decode cX10_copy 87 = .ok (.i2l, 1) := by decide +kernel
theorem dX10_copy_88 : decode cX10_copy 88 = .ok (.iload 5, 2) := by decide +kernel
theorem dX10_copy_90 : decode cX10_copy 90 = .ok (.i2l, 1) := by decide +kernel
theorem dX10_copy_91 : decode cX10_copy 91 = .ok (.ladd, 1) := by decide +kernel
theorem dX10_copy_92 : decode cX10_copy 92 = .ok (.aload_n 0, 1) := by decide +kernel
theorem dX10_copy_93 : decode cX10_copy 93 = .ok (.getfield 13, 3) := by decide +kernel
theorem dX10_copy_96 : decode cX10_copy 96 = .ok (.iload_n 1, 1) := by decide +kernel
theorem dX10_copy_97 : decode cX10_copy 97 = .ok (.iaload, 1) := by decide +kernel
theorem dX10_copy_98 : decode cX10_copy 98 = .ok (.i2l, 1) := by decide +kernel
theorem dX10_copy_99 : decode cX10_copy 99 = .ok (.lcmp, 1) := by decide +kernel
theorem dX10_copy_100 : decode cX10_copy 100 = .ok (.ifCond .gt 21, 3) := by decide +kernel
theorem dX10_copy_103 : decode cX10_copy 103 = .ok (.iload 4, 2) := by decide +kernel
theorem dX10_copy_105 : decode cX10_copy 105 = .ok (.i2l, 1) := by decide +kernel
theorem dX10_copy_106 : decode cX10_copy 106 = .ok (.iload 5, 2) := by decide +kernel
theorem dX10_copy_108 : decode cX10_copy 108 = .ok (.i2l, 1) := by decide +kernel
theorem dX10_copy_109 : decode cX10_copy 109 = .ok (.ladd, 1) := by decide +kernel
theorem dX10_copy_110 : decode cX10_copy 110 = .ok (.aload_n 0, 1) := by decide +kernel
theorem dX10_copy_111 : decode cX10_copy 111 = .ok (.getfield 13, 3) := by decide +kernel
theorem dX10_copy_114 : decode cX10_copy 114 = .ok (.iload_n 3, 1) := by decide +kernel
theorem dX10_copy_115 : decode cX10_copy 115 = .ok (.iaload, 1) := by decide +kernel
theorem dX10_copy_116 : decode cX10_copy 116 = .ok (.i2l, 1) := by decide +kernel
theorem dX10_copy_117 : decode cX10_copy 117 = .ok (.lcmp, 1) := by decide +kernel
theorem dX10_copy_118 : decode cX10_copy 118 = .ok (.ifCond .le 9, 3) := by decide +kernel
theorem dX10_copy_121 : decode cX10_copy 121 = .ok (.aload_n 0, 1) := by decide +kernel
theorem dX10_copy_122 : decode cX10_copy 122 = .ok (.iconst 2, 1) := by decide +kernel
theorem dX10_copy_123 : decode cX10_copy 123 = .ok (.invokevirtual 83, 3) := by decide +kernel
theorem dX10_copy_126 : decode cX10_copy 126 = .ok (.ireturn, 1) := by decide +kernel
theorem dX10_copy_127 : decode cX10_copy 127 = .ok (.iload_n 2, 1) := by decide +kernel
theorem dX10_copy_128 : decode cX10_copy 128 = .ok (.iload 4, 2) := by decide +kernel
theorem dX10_copy_130 : decode cX10_copy 130 = .ok (.if_icmp .lt 7, 3) := by decide +kernel
theorem dX10_copy_133 : decode cX10_copy 133 = .ok (.iconst 1, 1) := by decide +kernel
theorem dX10_copy_134 : decode cX10_copy 134 = .ok (.goto 4, 3) := by decide +kernel
theorem dX10_copy_137 : decode cX10_copy 137 = .ok (.iconst 0, 1) := by decide +kernel
theorem dX10_copy_138 : decode cX10_copy 138 = .ok (.istore 6, 2) := by decide +kernel
theorem dX10_copy_140 : decode cX10_copy 140 = .ok (.iconst 0, 1) := by decide +kernel
theorem dX10_copy_141 : decode cX10_copy 141 = .ok (.istore 7, 2) := by decide +kernel
theorem dX10_copy_143 : decode cX10_copy 143 = .ok (.iload 7, 2) := by decide +kernel
theorem dX10_copy_145 : decode cX10_copy 145 = .ok (.iload 5, 2) := by decide +kernel
theorem dX10_copy_147 : decode cX10_copy 147 = .ok (.if_icmp .ge 57, 3) := by decide +kernel
theorem dX10_copy_150 : decode cX10_copy 150 = .ok (.iload 6, 2) := by decide +kernel
theorem dX10_copy_152 : decode cX10_copy 152 = .ok (.ifCond .eq 8, 3) := by decide +kernel
theorem dX10_copy_155 : decode cX10_copy 155 = .ok (.iload 7, 2) := by decide +kernel
theorem dX10_copy_157 : decode cX10_copy 157 = .ok (.goto 10, 3) := by decide +kernel
theorem dX10_copy_160 : decode cX10_copy 160 = .ok (.iload 5, 2) := by decide +kernel
theorem dX10_copy_162 : decode cX10_copy 162 = .ok (.iconst 1, 1) := by decide +kernel
theorem dX10_copy_163 : decode cX10_copy 163 = .ok (.isub, 1) := by decide +kernel
theorem dX10_copy_164 : decode cX10_copy 164 = .ok (.iload 7, 2) := by decide +kernel
theorem dX10_copy_166 : decode cX10_copy 166 = .ok (.isub, 1) := by decide +kernel
theorem dX10_copy_167 : decode cX10_copy 167 = .ok (.istore 8, 2) := by decide +kernel
theorem dX10_copy_169 : decode cX10_copy 169 = .ok (.aload_n 0, 1) := by decide +kernel
theorem dX10_copy_170 : decode cX10_copy 170 = .ok (.getfield 16, 3) := by decide +kernel
theorem dX10_copy_173 : decode cX10_copy 173 = .ok (.bipush 40, 2) := by decide +kernel
theorem dX10_copy_175 : decode cX10_copy 175 = .ok (.iload_n 3, 1) := by decide +kernel
theorem dX10_copy_176 : decode cX10_copy 176 = .ok (.imul, 1) := by decide +kernel
theorem dX10_copy_177 : decode cX10_copy 177 = .ok (.iload 4, 2) := by decide +kernel
theorem dX10_copy_179 : decode cX10_copy 179 = .ok (.iadd, 1) := by decide +kernel
theorem dX10_copy_180 : decode cX10_copy 180 = .ok (.iload 8, 2) := by decide +kernel
theorem dX10_copy_182 : decode cX10_copy 182 = .ok (.iadd, 1) := by decide +kernel
theorem dX10_copy_183 : decode cX10_copy 183 = .ok (.aload_n 0, 1) := by decide +kernel
theorem dX10_copy_184 : decode cX10_copy 184 = .ok (.getfield 16, 3) := by decide +kernel
theorem dX10_copy_187 : decode cX10_copy 187 = .ok (.bipush 40, 2) := by decide +kernel
theorem dX10_copy_189 : decode cX10_copy 189 = .ok (.iload_n 1, 1) := by decide +kernel
theorem dX10_copy_190 : decode cX10_copy 190 = .ok (.imul, 1) := by decide +kernel
theorem dX10_copy_191 : decode cX10_copy 191 = .ok (.iload_n 2, 1) := by decide +kernel
theorem dX10_copy_192 : decode cX10_copy 192 = .ok (.iadd, 1) := by decide +kernel
theorem dX10_copy_193 : decode cX10_copy 193 = .ok (.iload 8, 2) := by decide +kernel
theorem dX10_copy_195 : decode cX10_copy 195 = .ok (.iadd, 1) := by decide +kernel
theorem dX10_copy_196 : decode cX10_copy 196 = .ok (.iaload, 1) := by decide +kernel
theorem dX10_copy_197 : decode cX10_copy 197 = .ok (.iastore, 1) := by decide +kernel
theorem dX10_copy_198 : decode cX10_copy 198 = .ok (.iinc 7 1, 3) := by decide +kernel
theorem dX10_copy_201 : decode cX10_copy 201 = .ok (.goto (-58), 3) := by decide +kernel
theorem dX10_copy_204 : decode cX10_copy 204 = .ok (.iload 5, 2) := by decide +kernel
theorem dX10_copy_206 : decode cX10_copy 206 = .ok (.ireturn, 1) := by decide +kernel
theorem dX10_drop_0 : decode cX10_drop 0 = .ok (.aload_n 0, 1) := by decide +kernel
theorem dX10_drop_1 : decode cX10_drop 1 = .ok (.iconst 0, 1) := by decide +kernel
theorem dX10_drop_2 : decode cX10_drop 2 = .ok (.putfield 62, 3) := by decide +kernel
theorem dX10_drop_5 : decode cX10_drop 5 = .ok (.iload_n 1, 1) := by decide +kernel
theorem dX10_drop_6 : decode cX10_drop 6 = .ok (.invokestatic 76, 3) := by decide +kernel
theorem dX10_drop_9 : decode cX10_drop 9 = .ok (.ifCond .ne 6, 3) := by decide +kernel
theorem dX10_drop_12 : decode cX10_drop 12 = .ok (.ldc 82, 2) := by decide +kernel
theorem dX10_drop_14 : decode cX10_drop 14 = .ok (.ireturn, 1) := by decide +kernel
theorem dX10_drop_15 : decode cX10_drop 15 = .ok (.aload_n 0, 1) := by decide +kernel
theorem dX10_drop_16 : decode cX10_drop 16 = .ok (.iconst 0, 1) := by decide +kernel
theorem dX10_drop_17 : decode cX10_drop 17 = .ok (.putfield 66, 3) := by decide +kernel
theorem dX10_drop_20 : decode cX10_drop 20 = .ok (.aload_n 0, 1) := by decide +kernel
theorem dX10_drop_21 : decode cX10_drop 21 = .ok (.getfield 7, 3) := by decide +kernel
theorem dX10_drop_24 : decode cX10_drop 24 = .ok (.iload_n 1, 1) := by decide +kernel
theorem dX10_drop_25 : decode cX10_drop 25 = .ok (.iaload, 1) := by decide +kernel
theorem dX10_drop_26 : decode cX10_drop 26 = .ok (.ifCond .ge 9, 3) := by decide +kernel
theorem dX10_drop_29 : decode cX10_drop 29 = .ok (.aload_n 0, 1) := by decide +kernel
theorem dX10_drop_30 : decode cX10_drop 30 = .ok (.iconst 1, 1) := by decide +kernel
theorem dX10_drop_31 : decode cX10_drop 31 = .ok (.invokevirtual 83, 3) := by decide +kernel
theorem dX10_drop_34 : decode cX10_drop 34 = .ok (.ireturn, 1) := by decide +kernel
theorem dX10_drop_35 : decode cX10_drop 35 = .ok (.aload_n 0, 1) := by decide +kernel
theorem dX10_drop_36 : decode cX10_drop 36 = .ok (.getfield 7, 3) := by decide +kernel
theorem dX10_drop_39 : decode cX10_drop 39 = .ok (.iload_n 1, 1) := by decide +kernel
theorem dX10_drop_40 : decode cX10_drop 40 = .ok (.iconst (-1), 1) := by decide +kernel
theorem dX10_drop_41 : decode cX10_drop 41 = .ok (.iastore, 1) := by decide +kernel
theorem dX10_drop_42 : decode cX10_drop 42 = .ok (.aload_n 0, 1) := by decide +kernel
theorem dX10_drop_43 : decode cX10_drop 43 = .ok (.getfield 13, 3) := by decide +kernel
theorem dX10_drop_46 : decode cX10_drop 46 = .ok (.iload_n 1, 1) := by decide +kernel
theorem dX10_drop_47 : decode cX10_drop 47 = .ok (.iaload, 1) := by decide +kernel
theorem dX10_drop_48 : decode cX10_drop 48 = .ok (.ireturn, 1) := by decide +kernel
theorem dX10_feed_0 : decode cX10_feed 0 = .ok (.aload_n 0, 1) := by decide +kernel
theorem dX10_feed_1 : decode cX10_feed 1 = .ok (.iconst 0, 1) := by decide +kernel
theorem dX10_feed_2 : decode cX10_feed 2 = .ok (.putfield 62, 3) := by decide +kernel
theorem dX10_feed_5 : decode cX10_feed 5 = .ok (.iload_n 3, 1) := by decide +kernel
theorem dX10_feed_6 : decode cX10_feed 6 = .ok (.i2l, 1) := by decide +kernel
theorem dX10_feed_7 : decode cX10_feed 7 = .ok (.lconst 1, 1) := by decide +kernel
theorem dX10_feed_8 : decode cX10_feed 8 = .ok (.ldc2_w 87, 3) := by decide +kernel
theorem dX10_feed_11 : decode cX10_feed 11 = .ok (.invokestatic 72, 3) := by decide +kernel
theorem dX10_feed_14 : decode cX10_feed 14 = .ok (.ifCond .ne 6, 3) := by decide +kernel
theorem dX10_feed_17 : decode cX10_feed 17 = .ok (.ldc 82, 2) := by decide +kernel
theorem dX10_feed_19 : decode cX10_feed 19 = .ok (.ireturn, 1) := by decide +kernel
theorem dX10_feed_20 : decode cX10_feed 20 = .ok (.aload_n 0, 1) := by decide +kernel
theorem dX10_feed_21 : decode cX10_feed 21 = .ok (.getfield 89, 3) := by decide +kernel
theorem dX10_feed_24 : decode cX10_feed 24 = .ok (.iload_n 3, 1) := by decide +kernel
theorem dX10_feed_25 : decode cX10_feed 25 = .ok (.iadd, 1) := by decide +kernel
theorem dX10_feed_26 : decode cX10_feed 26 = .ok (.sipush 700, 3) := by decide +kernel
theorem dX10_feed_29 : decode cX10_feed 29 = .ok (.if_icmp .le 6, 3) := by decide +kernel
theorem dX10_feed_32 : decode cX10_feed 32 = .ok (.ldc 92, 2) := by decide +kernel
theorem dX10_feed_34 : decode cX10_feed 34 = .ok (.ireturn, 1) := by decide +kernel
theorem dX10_feed_35 : decode cX10_feed 35 = .ok (.iload_n 3, 1) := by decide +kernel
theorem dX10_feed_36 : decode cX10_feed 36 = .ok (.iconst 1, 1) := by decide +kernel
theorem dX10_feed_37 : decode cX10_feed 37 = .ok (.isub, 1) := by decide +kernel
theorem dX10_feed_38 : decode cX10_feed 38 = .ok (.istore 4, 2) := by decide +kernel
theorem dX10_feed_40 : decode cX10_feed 40 = .ok (.iload 4, 2) := by decide +kernel
theorem dX10_feed_42 : decode cX10_feed 42 = .ok (.ifCond .lt 40, 3) := by decide +kernel
theorem dX10_feed_45 : decode cX10_feed 45 = .ok (.aload_n 0, 1) := by decide +kernel
theorem dX10_feed_46 : decode cX10_feed 46 = .ok (.getfield 28, 3) := by decide +kernel
theorem dX10_feed_49 : decode cX10_feed 49 = .ok (.aload_n 0, 1) := by decide +kernel
theorem dX10_feed_50 : decode cX10_feed 50 = .ok (.getfield 89, 3) := by decide +kernel
theorem dX10_feed_53 : decode cX10_feed 53 = .ok (.lload_n 1, 1) := by decide +kernel
theorem dX10_feed_54 : decode cX10_feed 54 = .ok (.bipush 8, 2) := by decide +kernel
theorem dX10_feed_56 : decode cX10_feed 56 = .ok (.iload 4, 2) := by decide +kernel
theorem dX10_feed_58 : decode cX10_feed 58 = .ok (.imul, 1) := by decide +kernel
theorem dX10_feed_59 : decode cX10_feed 59 = .ok (.lshr, 1) := by decide +kernel
theorem dX10_feed_60 : decode cX10_feed 60 = .ok (.ldc2_w 93, 3) := by decide +kernel
theorem dX10_feed_63 : decode cX10_feed 63 = .ok (.land, 1) := by decide +kernel
theorem dX10_feed_64 : decode cX10_feed 64 = .ok (.l2i, 1) := by decide +kernel
theorem dX10_feed_65 : decode cX10_feed 65 = .ok (.iastore, 1) := by decide +kernel
theorem dX10_feed_66 : decode cX10_feed 66 = .ok (.aload_n 0, 1) := by decide +kernel
theorem dX10_feed_67 : decode cX10_feed 67 = .ok (.dup, 1) := by decide +kernel
theorem dX10_feed_68 : decode cX10_feed 68 = .ok (.getfield 89, 3) := by decide +kernel
theorem dX10_feed_71 : decode cX10_feed 71 = .ok (.iconst 1, 1) := by decide +kernel
theorem dX10_feed_72 : decode cX10_feed 72 = .ok (.iadd, 1) := by decide +kernel
theorem dX10_feed_73 : decode cX10_feed 73 = .ok (.putfield 89, 3) := by decide +kernel
theorem dX10_feed_76 : decode cX10_feed 76 = .ok (.iinc 4 (-1), 3) := by decide +kernel
theorem dX10_feed_79 : decode cX10_feed 79 = .ok (.goto (-39), 3) := by decide +kernel
theorem dX10_feed_82 : decode cX10_feed 82 = .ok (.aload_n 0, 1) := by decide +kernel
theorem dX10_feed_83 : decode cX10_feed 83 = .ok (.getfield 89, 3) := by decide +kernel
theorem dX10_feed_86 : decode cX10_feed 86 = .ok (.ireturn, 1) := by decide +kernel
theorem dX10_byteAt_0 : decode cX10_byteAt 0 = .ok (.iload_n 1, 1) := by decide +kernel
theorem dX10_byteAt_1 : decode cX10_byteAt 1 = .ok (.aload_n 0, 1) := by decide +kernel
theorem dX10_byteAt_2 : decode cX10_byteAt 2 = .ok (.getfield 95, 3) := by decide +kernel
theorem dX10_byteAt_5 : decode cX10_byteAt 5 = .ok (.if_icmp .ge 12, 3) := by decide +kernel
theorem dX10_byteAt_8 : decode cX10_byteAt 8 = .ok (.aload_n 0, 1) := by decide +kernel
theorem dX10_byteAt_9 : decode cX10_byteAt 9 = .ok (.getfield 28, 3) := by decide +kernel
theorem dX10_byteAt_12 : decode cX10_byteAt 12 = .ok (.iload_n 1, 1) := by decide +kernel
theorem dX10_byteAt_13 : decode cX10_byteAt 13 = .ok (.iaload, 1) := by decide +kernel
theorem dX10_byteAt_14 : decode cX10_byteAt 14 = .ok (.goto 5, 3) := by decide +kernel
theorem dX10_byteAt_17 : decode cX10_byteAt 17 = .ok (.ldc 98, 2) := by decide +kernel
theorem dX10_byteAt_19 : decode cX10_byteAt 19 = .ok (.ireturn, 1) := by decide +kernel
theorem dX10_isLetter_0 : decode cX10_isLetter 0 = .ok (.iload_n 0, 1) := by decide +kernel
theorem dX10_isLetter_1 : decode cX10_isLetter 1 = .ok (.bipush 97, 2) := by decide +kernel
theorem dX10_isLetter_3 : decode cX10_isLetter 3 = .ok (.if_icmp .lt 13, 3) := by decide +kernel
theorem dX10_isLetter_6 : decode cX10_isLetter 6 = .ok (.iload_n 0, 1) := by decide +kernel
theorem dX10_isLetter_7 : decode cX10_isLetter 7 = .ok (.bipush 122, 2) := by decide +kernel
theorem dX10_isLetter_9 : decode cX10_isLetter 9 = .ok (.if_icmp .gt 7, 3) := by decide +kernel
theorem dX10_isLetter_12 : decode cX10_isLetter 12 = .ok (.iconst 1, 1) := by decide +kernel
theorem dX10_isLetter_13 : decode cX10_isLetter 13 = .ok (.goto 4, 3) := by decide +kernel
theorem dX10_isLetter_16 : decode cX10_isLetter 16 = .ok (.iconst 0, 1) := by decide +kernel
theorem dX10_isLetter_17 : decode cX10_isLetter 17 = .ok (.ireturn, 1) := by decide +kernel
theorem dX10_isFigure_0 : decode cX10_isFigure 0 = .ok (.iload_n 0, 1) := by decide +kernel
theorem dX10_isFigure_1 : decode cX10_isFigure 1 = .ok (.bipush 48, 2) := by decide +kernel
theorem dX10_isFigure_3 : decode cX10_isFigure 3 = .ok (.if_icmp .lt 13, 3) := by decide +kernel
theorem dX10_isFigure_6 : decode cX10_isFigure 6 = .ok (.iload_n 0, 1) := by decide +kernel
theorem dX10_isFigure_7 : decode cX10_isFigure 7 = .ok (.bipush 57, 2) := by decide +kernel
theorem dX10_isFigure_9 : decode cX10_isFigure 9 = .ok (.if_icmp .gt 7, 3) := by decide +kernel
theorem dX10_isFigure_12 : decode cX10_isFigure 12 = .ok (.iconst 1, 1) := by decide +kernel
theorem dX10_isFigure_13 : decode cX10_isFigure 13 = .ok (.goto 4, 3) := by decide +kernel
theorem dX10_isFigure_16 : decode cX10_isFigure 16 = .ok (.iconst 0, 1) := by decide +kernel
theorem dX10_isFigure_17 : decode cX10_isFigure 17 = .ok (.ireturn, 1) := by decide +kernel
theorem dX10_nextNumber_0 : decode cX10_nextNumber 0 = .ok (.aload_n 0, 1) := by decide +kernel
theorem dX10_nextNumber_1 : decode cX10_nextNumber 1 = .ok (.aload_n 0, 1) := by decide +kernel
theorem dX10_nextNumber_2 : decode cX10_nextNumber 2 = .ok (.getfield 99, 3) := by decide +kernel
theorem dX10_nextNumber_5 : decode cX10_nextNumber 5 = .ok (.invokevirtual 102, 3) := by decide +kernel
theorem dX10_nextNumber_8 : decode cX10_nextNumber 8 = .ok (.bipush 45, 2) := by decide +kernel
theorem dX10_nextNumber_10 : decode cX10_nextNumber 10 = .ok (.if_icmp .ne 7, 3) := by decide +kernel
theorem dX10_nextNumber_13 : decode cX10_nextNumber 13 = .ok (.iconst 1, 1) := by decide +kernel
theorem dX10_nextNumber_14 : decode cX10_nextNumber 14 = .ok (.goto 4, 3) := by decide +kernel
theorem dX10_nextNumber_17 : decode cX10_nextNumber 17 = .ok (.iconst 0, 1) := by decide +kernel
theorem dX10_nextNumber_18 : decode cX10_nextNumber 18 = .ok (.istore_n 1, 1) := by decide +kernel
theorem dX10_nextNumber_19 : decode cX10_nextNumber 19 = .ok (.aload_n 0, 1) := by decide +kernel
theorem dX10_nextNumber_20 : decode cX10_nextNumber 20 = .ok (.dup, 1) := by decide +kernel
theorem dX10_nextNumber_21 : decode cX10_nextNumber 21 = .ok (.getfield 99, 3) := by decide +kernel
theorem dX10_nextNumber_24 : decode cX10_nextNumber 24 = .ok (.iload_n 1, 1) := by decide +kernel
theorem dX10_nextNumber_25 : decode cX10_nextNumber 25 = .ok (.ifCond .eq 7, 3) := by decide +kernel
theorem dX10_nextNumber_28 : decode cX10_nextNumber 28 = .ok (.iconst 1, 1) := by decide +kernel
theorem dX10_nextNumber_29 : decode cX10_nextNumber 29 = .ok (.goto 4, 3) := by decide +kernel
theorem dX10_nextNumber_32 : decode cX10_nextNumber 32 = .ok (.iconst 0, 1) := by decide +kernel
theorem dX10_nextNumber_33 : decode cX10_nextNumber 33 = .ok (.iadd, 1) := by decide +kernel
theorem dX10_nextNumber_34 : decode cX10_nextNumber 34 = .ok (.putfield 99, 3) := by decide +kernel
theorem dX10_nextNumber_37 : decode cX10_nextNumber 37 = .ok (.aload_n 0, 1) := by decide +kernel
theorem dX10_nextNumber_38 : decode cX10_nextNumber 38 = .ok (.getfield 99, 3) := by decide +kernel
theorem dX10_nextNumber_41 : decode cX10_nextNumber 41 = .ok (.istore_n 2, 1) := by decide +kernel
theorem dX10_nextNumber_42 : decode cX10_nextNumber 42 = .ok (.aload_n 0, 1) := by decide +kernel
theorem dX10_nextNumber_43 : decode cX10_nextNumber 43 = .ok (.iconst 0, 1) := by decide +kernel
theorem dX10_nextNumber_44 : decode cX10_nextNumber 44 = .ok (.putfield 105, 3) := by decide +kernel
theorem dX10_nextNumber_47 : decode cX10_nextNumber 47 = .ok (.aload_n 0, 1) := by decide +kernel
theorem dX10_nextNumber_48 : decode cX10_nextNumber 48 = .ok (.aload_n 0, 1) := by decide +kernel
theorem dX10_nextNumber_49 : decode cX10_nextNumber 49 = .ok (.getfield 99, 3) := by decide +kernel
theorem dX10_nextNumber_52 : decode cX10_nextNumber 52 = .ok (.invokevirtual 102, 3) := by decide +kernel
theorem dX10_nextNumber_55 : decode cX10_nextNumber 55 = .ok (.invokestatic 108, 3) := by decide +kernel
theorem dX10_nextNumber_58 : decode cX10_nextNumber 58 = .ok (.ifCond .eq 56, 3) := by decide +kernel
theorem dX10_nextNumber_61 : decode cX10_nextNumber 61 = .ok (.aload_n 0, 1) := by decide +kernel
theorem dX10_nextNumber_62 : decode cX10_nextNumber 62 = .ok (.aload_n 0, 1) := by decide +kernel
theorem dX10_nextNumber_63 : decode cX10_nextNumber 63 = .ok (.getfield 99, 3) := by decide +kernel
theorem dX10_nextNumber_66 : decode cX10_nextNumber 66 = .ok (.iload_n 2, 1) := by decide +kernel
theorem dX10_nextNumber_67 : decode cX10_nextNumber 67 = .ok (.isub, 1) := by decide +kernel
theorem dX10_nextNumber_68 : decode cX10_nextNumber 68 = .ok (.iconst 3, 1) := by decide +kernel
theorem dX10_nextNumber_69 : decode cX10_nextNumber 69 = .ok (.if_icmp .ge 25, 3) := by decide +kernel
theorem dX10_nextNumber_72 : decode cX10_nextNumber 72 = .ok (.bipush 10, 2) := by decide +kernel
theorem dX10_nextNumber_74 : decode cX10_nextNumber 74 = .ok (.aload_n 0, 1) := by decide +kernel
theorem dX10_nextNumber_75 : decode cX10_nextNumber 75 = .ok (.getfield 105, 3) := by decide +kernel
theorem dX10_nextNumber_78 : decode cX10_nextNumber 78 = .ok (.imul, 1) := by decide +kernel
theorem dX10_nextNumber_79 : decode cX10_nextNumber 79 = .ok (.aload_n 0, 1) := by decide +kernel
theorem dX10_nextNumber_80 : decode cX10_nextNumber 80 = .ok (.aload_n 0, 1) := by decide +kernel
theorem dX10_nextNumber_81 : decode cX10_nextNumber 81 = .ok (.getfield 99, 3) := by decide +kernel
theorem dX10_nextNumber_84 : decode cX10_nextNumber 84 = .ok (.invokevirtual 102, 3) := by decide +kernel
theorem dX10_nextNumber_87 : decode cX10_nextNumber 87 = .ok (.iadd, 1) := by decide +kernel
theorem dX10_nextNumber_88 : decode cX10_nextNumber 88 = .ok (.bipush 48, 2) := by decide +kernel
theorem dX10_nextNumber_90 : decode cX10_nextNumber 90 = .ok (.isub, 1) := by decide +kernel
theorem dX10_nextNumber_91 : decode cX10_nextNumber 91 = .ok (.goto 7, 3) := by decide +kernel
theorem dX10_nextNumber_94 : decode cX10_nextNumber 94 = .ok (.aload_n 0, 1) := by decide +kernel
theorem dX10_nextNumber_95 : decode cX10_nextNumber 95 = .ok (.getfield 105, 3) := by decide +kernel
theorem dX10_nextNumber_98 : decode cX10_nextNumber 98 = .ok (.putfield 105, 3) := by decide +kernel
theorem dX10_nextNumber_101 : decode cX10_nextNumber 101 = .ok (.aload_n 0, 1) := by decide +kernel
theorem dX10_nextNumber_102 : decode cX10_nextNumber 102 = .ok (.dup, 1) := by decide +kernel
theorem dX10_nextNumber_103 : decode cX10_nextNumber 103 = .ok (.getfield 99, 3) := by decide +kernel
theorem dX10_nextNumber_106 : decode cX10_nextNumber 106 = .ok (.iconst 1, 1) := by decide +kernel
theorem dX10_nextNumber_107 : decode cX10_nextNumber 107 = .ok (.iadd, 1) := by decide +kernel
theorem dX10_nextNumber_108 : decode cX10_nextNumber 108 = .ok (.putfield 99, 3) := by decide +kernel
theorem dX10_nextNumber_111 : decode cX10_nextNumber 111 = .ok (.goto (-64), 3) := by decide +kernel
theorem dX10_nextNumber_114 : decode cX10_nextNumber 114 = .ok (.aload_n 0, 1) := by decide +kernel
theorem dX10_nextNumber_115 : decode cX10_nextNumber 115 = .ok (.iload_n 1, 1) := by decide +kernel
theorem dX10_nextNumber_116 : decode cX10_nextNumber 116 = .ok (.ifCond .eq 11, 3) := by decide +kernel
theorem dX10_nextNumber_119 : decode cX10_nextNumber 119 = .ok (.aload_n 0, 1) := by decide +kernel
theorem dX10_nextNumber_120 : decode cX10_nextNumber 120 = .ok (.getfield 105, 3) := by decide +kernel
theorem dX10_nextNumber_123 : decode cX10_nextNumber 123 = .ok (.ineg, 1) := by decide +kernel
theorem dX10_nextNumber_124 : decode cX10_nextNumber 124 = .ok (.goto 7, 3) := by decide +kernel
theorem dX10_nextNumber_127 : decode cX10_nextNumber 127 = .ok (.aload_n 0, 1) := by decide +kernel
theorem dX10_nextNumber_128 : decode cX10_nextNumber 128 = .ok (.getfield 105, 3) := by decide +kernel
theorem dX10_nextNumber_131 : decode cX10_nextNumber 131 = .ok (.putfield 105, 3) := by decide +kernel
theorem dX10_nextNumber_134 : decode cX10_nextNumber 134 = .ok (.aload_n 0, 1) := by decide +kernel
theorem dX10_nextNumber_135 : decode cX10_nextNumber 135 = .ok (.aload_n 0, 1) := by decide +kernel
theorem dX10_nextNumber_136 : decode cX10_nextNumber 136 = .ok (.getfield 99, 3) := by decide +kernel
theorem dX10_nextNumber_139 : decode cX10_nextNumber 139 = .ok (.iload_n 2, 1) := by decide +kernel
theorem dX10_nextNumber_140 : decode cX10_nextNumber 140 = .ok (.isub, 1) := by decide +kernel
theorem dX10_nextNumber_141 : decode cX10_nextNumber 141 = .ok (.i2l, 1) := by decide +kernel
theorem dX10_nextNumber_142 : decode cX10_nextNumber 142 = .ok (.lconst 1, 1) := by decide +kernel
theorem dX10_nextNumber_143 : decode cX10_nextNumber 143 = .ok (.ldc2_w 111, 3) := by decide +kernel
theorem dX10_nextNumber_146 : decode cX10_nextNumber 146 = .ok (.invokestatic 72, 3) := by decide +kernel
theorem dX10_nextNumber_149 : decode cX10_nextNumber 149 = .ok (.ifCond .eq 7, 3) := by decide +kernel
theorem dX10_nextNumber_152 : decode cX10_nextNumber 152 = .ok (.iconst 3, 1) := by decide +kernel
theorem dX10_nextNumber_153 : decode cX10_nextNumber 153 = .ok (.goto 4, 3) := by decide +kernel
theorem dX10_nextNumber_156 : decode cX10_nextNumber 156 = .ok (.iconst 0, 1) := by decide +kernel
theorem dX10_nextNumber_157 : decode cX10_nextNumber 157 = .ok (.putfield 113, 3) := by decide +kernel
theorem dX10_nextNumber_160 : decode cX10_nextNumber 160 = .ok (.return_, 1) := by decide +kernel
theorem dX10_next_0 : decode cX10_next 0 = .ok (.aload_n 0, 1) := by decide +kernel
theorem dX10_next_1 : decode cX10_next 1 = .ok (.aload_n 0, 1) := by decide +kernel
theorem dX10_next_2 : decode cX10_next 2 = .ok (.getfield 99, 3) := by decide +kernel
theorem dX10_next_5 : decode cX10_next 5 = .ok (.invokevirtual 102, 3) := by decide +kernel
theorem dX10_next_8 : decode cX10_next 8 = .ok (.bipush 32, 2) := by decide +kernel
theorem dX10_next_10 : decode cX10_next 10 = .ok (.if_icmp .eq 16, 3) := by decide +kernel
theorem dX10_next_13 : decode cX10_next 13 = .ok (.aload_n 0, 1) := by decide +kernel
theorem dX10_next_14 : decode cX10_next 14 = .ok (.aload_n 0, 1) := by decide +kernel
theorem dX10_next_15 : decode cX10_next 15 = .ok (.getfield 99, 3) := by decide +kernel
theorem dX10_next_18 : decode cX10_next 18 = .ok (.invokevirtual 102, 3) := by decide +kernel
theorem dX10_next_21 : decode cX10_next 21 = .ok (.bipush 10, 2) := by decide +kernel
theorem dX10_next_23 : decode cX10_next 23 = .ok (.if_icmp .ne 16, 3) := by decide +kernel
theorem dX10_next_26 : decode cX10_next 26 = .ok (.aload_n 0, 1) := by decide +kernel
theorem dX10_next_27 : decode cX10_next 27 = .ok (.dup, 1) := by decide +kernel
theorem dX10_next_28 : decode cX10_next 28 = .ok (.getfield 99, 3) := by decide +kernel
theorem dX10_next_31 : decode cX10_next 31 = .ok (.iconst 1, 1) := by decide +kernel
theorem dX10_next_32 : decode cX10_next 32 = .ok (.iadd, 1) := by decide +kernel
theorem dX10_next_33 : decode cX10_next 33 = .ok (.putfield 99, 3) := by decide +kernel
theorem dX10_next_36 : decode cX10_next 36 = .ok (.goto (-36), 3) := by decide +kernel
theorem dX10_next_39 : decode cX10_next 39 = .ok (.aload_n 0, 1) := by decide +kernel
theorem dX10_next_40 : decode cX10_next 40 = .ok (.aload_n 0, 1) := by decide +kernel
theorem dX10_next_41 : decode cX10_next 41 = .ok (.getfield 99, 3) := by decide +kernel
theorem dX10_next_44 : decode cX10_next 44 = .ok (.putfield 116, 3) := by decide +kernel
theorem dX10_next_47 : decode cX10_next 47 = .ok (.aload_n 0, 1) := by decide +kernel
theorem dX10_next_48 : decode cX10_next 48 = .ok (.aload_n 0, 1) := by decide +kernel
theorem dX10_next_49 : decode cX10_next 49 = .ok (.getfield 99, 3) := by decide +kernel
theorem dX10_next_52 : decode cX10_next 52 = .ok (.invokevirtual 102, 3) := by decide +kernel
theorem dX10_next_55 : decode cX10_next 55 = .ok (.istore_n 1, 1) := by decide +kernel
theorem dX10_next_56 : decode cX10_next 56 = .ok (.iload_n 1, 1) := by decide +kernel
theorem dX10_next_57 : decode cX10_next 57 = .ok (.ldc 98, 2) := by decide +kernel
theorem dX10_next_59 : decode cX10_next 59 = .ok (.if_icmp .ne 11, 3) := by decide +kernel
theorem dX10_next_62 : decode cX10_next 62 = .ok (.aload_n 0, 1) := by decide +kernel
theorem dX10_next_63 : decode cX10_next 63 = .ok (.iconst 1, 1) := by decide +kernel
theorem dX10_next_64 : decode cX10_next 64 = .ok (.putfield 113, 3) := by decide +kernel
theorem dX10_next_67 : decode cX10_next 67 = .ok (.goto 90, 3) := by decide +kernel
theorem dX10_next_70 : decode cX10_next 70 = .ok (.iload_n 1, 1) := by decide +kernel
theorem dX10_next_71 : decode cX10_next 71 = .ok (.invokestatic 119, 3) := by decide +kernel
theorem dX10_next_74 : decode cX10_next 74 = .ok (.ifCond .eq 38, 3) := by decide +kernel
theorem dX10_next_77 : decode cX10_next 77 = .ok (.aload_n 0, 1) := by decide +kernel
theorem dX10_next_78 : decode cX10_next 78 = .ok (.aload_n 0, 1) := by decide +kernel
theorem dX10_next_79 : decode cX10_next 79 = .ok (.getfield 99, 3) := by decide +kernel
theorem dX10_next_82 : decode cX10_next 82 = .ok (.invokevirtual 102, 3) := by decide +kernel
theorem dX10_next_85 : decode cX10_next 85 = .ok (.invokestatic 119, 3) := by decide +kernel
theorem dX10_next_88 : decode cX10_next 88 = .ok (.ifCond .eq 16, 3) := by decide +kernel
theorem dX10_next_91 : decode cX10_next 91 = .ok (.aload_n 0, 1) := by decide +kernel
theorem dX10_next_92 : decode cX10_next 92 = .ok (.dup, 1) := by decide +kernel
theorem dX10_next_93 : decode cX10_next 93 = .ok (.getfield 99, 3) := by decide +kernel
theorem dX10_next_96 : decode cX10_next 96 = .ok (.iconst 1, 1) := by decide +kernel
theorem dX10_next_97 : decode cX10_next 97 = .ok (.iadd, 1) := by decide +kernel
theorem dX10_next_98 : decode cX10_next 98 = .ok (.putfield 99, 3) := by decide +kernel
theorem dX10_next_101 : decode cX10_next 101 = .ok (.goto (-24), 3) := by decide +kernel
theorem dX10_next_104 : decode cX10_next 104 = .ok (.aload_n 0, 1) := by decide +kernel
theorem dX10_next_105 : decode cX10_next 105 = .ok (.iconst 2, 1) := by decide +kernel
theorem dX10_next_106 : decode cX10_next 106 = .ok (.putfield 113, 3) := by decide +kernel
theorem dX10_next_109 : decode cX10_next 109 = .ok (.goto 48, 3) := by decide +kernel
theorem dX10_next_112 : decode cX10_next 112 = .ok (.iload_n 1, 1) := by decide +kernel
theorem dX10_next_113 : decode cX10_next 113 = .ok (.invokestatic 108, 3) := by decide +kernel
theorem dX10_next_116 : decode cX10_next 116 = .ok (.ifCond .ne 9, 3) := by decide +kernel
theorem dX10_next_119 : decode cX10_next 119 = .ok (.iload_n 1, 1) := by decide +kernel
theorem dX10_next_120 : decode cX10_next 120 = .ok (.bipush 45, 2) := by decide +kernel
theorem dX10_next_122 : decode cX10_next 122 = .ok (.if_icmp .ne 10, 3) := by decide +kernel
theorem dX10_next_125 : decode cX10_next 125 = .ok (.aload_n 0, 1) := by decide +kernel
theorem dX10_next_126 : decode cX10_next 126 = .ok (.invokevirtual 122, 3) := by decide +kernel
theorem dX10_next_129 : decode cX10_next 129 = .ok (.goto 28, 3) := by decide +kernel
theorem dX10_next_132 : decode cX10_next 132 = .ok (.aload_n 0, 1) := by decide +kernel
theorem dX10_next_133 : decode cX10_next 133 = .ok (.dup, 1) := by decide +kernel
theorem dX10_next_134 : decode cX10_next 134 = .ok (.getfield 99, 3) := by decide +kernel
theorem dX10_next_137 : decode cX10_next 137 = .ok (.iconst 1, 1) := by decide +kernel
theorem dX10_next_138 : decode cX10_next 138 = .ok (.iadd, 1) := by decide +kernel
theorem dX10_next_139 : decode cX10_next 139 = .ok (.putfield 99, 3) := by decide +kernel
theorem dX10_next_142 : decode cX10_next 142 = .ok (.aload_n 0, 1) := by decide +kernel
theorem dX10_next_143 : decode cX10_next 143 = .ok (.iload_n 1, 1) := by decide +kernel
theorem dX10_next_144 : decode cX10_next 144 = .ok (.bipush 59, 2) := by decide +kernel
theorem dX10_next_146 : decode cX10_next 146 = .ok (.if_icmp .ne 7, 3) := by decide +kernel
theorem dX10_next_149 : decode cX10_next 149 = .ok (.iconst 4, 1) := by decide +kernel
theorem dX10_next_150 : decode cX10_next 150 = .ok (.goto 4, 3) := by decide +kernel
theorem dX10_next_153 : decode cX10_next 153 = .ok (.iconst 0, 1) := by decide +kernel
theorem dX10_next_154 : decode cX10_next 154 = .ok (.putfield 113, 3) := by decide +kernel
theorem dX10_next_157 : decode cX10_next 157 = .ok (.aload_n 0, 1) := by decide +kernel
theorem dX10_next_158 : decode cX10_next 158 = .ok (.aload_n 0, 1) := by decide +kernel
theorem dX10_next_159 : decode cX10_next 159 = .ok (.getfield 99, 3) := by decide +kernel
theorem dX10_next_162 : decode cX10_next 162 = .ok (.putfield 125, 3) := by decide +kernel
theorem dX10_next_165 : decode cX10_next 165 = .ok (.return_, 1) := by decide +kernel
theorem dX10_bad_0 : decode cX10_bad 0 = .ok (.aload_n 0, 1) := by decide +kernel
theorem dX10_bad_1 : decode cX10_bad 1 = .ok (.getfield 128, 3) := by decide +kernel
theorem dX10_bad_4 : decode cX10_bad 4 = .ok (.ifCond .ne 16, 3) := by decide +kernel
theorem dX10_bad_7 : decode cX10_bad 7 = .ok (.aload_n 0, 1) := by decide +kernel
theorem dX10_bad_8 : decode cX10_bad 8 = .ok (.iload_n 1, 1) := by decide +kernel
theorem dX10_bad_9 : decode cX10_bad 9 = .ok (.putfield 128, 3) := by decide +kernel
theorem dX10_bad_12 : decode cX10_bad 12 = .ok (.aload_n 0, 1) := by decide +kernel
theorem dX10_bad_13 : decode cX10_bad 13 = .ok (.aload_n 0, 1) := by decide +kernel
theorem dX10_bad_14 : decode cX10_bad 14 = .ok (.getfield 116, 3) := by decide +kernel
theorem dX10_bad_17 : decode cX10_bad 17 = .ok (.putfield 131, 3) := by decide +kernel
theorem dX10_bad_20 : decode cX10_bad 20 = .ok (.return_, 1) := by decide +kernel
theorem dX10_must_0 : decode cX10_must 0 = .ok (.iload_n 1, 1) := by decide +kernel
theorem dX10_must_1 : decode cX10_must 1 = .ok (.ifCond .ne 8, 3) := by decide +kernel
theorem dX10_must_4 : decode cX10_must 4 = .ok (.aload_n 0, 1) := by decide +kernel
theorem dX10_must_5 : decode cX10_must 5 = .ok (.iconst 1, 1) := by decide +kernel
theorem dX10_must_6 : decode cX10_must 6 = .ok (.invokevirtual 134, 3) := by decide +kernel
theorem dX10_must_9 : decode cX10_must 9 = .ok (.aload_n 0, 1) := by decide +kernel
theorem dX10_must_10 : decode cX10_must 10 = .ok (.getfield 128, 3) := by decide +kernel
theorem dX10_must_13 : decode cX10_must 13 = .ok (.ifCond .ne 7, 3) := by decide +kernel
theorem dX10_must_16 : decode cX10_must 16 = .ok (.aload_n 0, 1) := by decide +kernel
theorem dX10_must_17 : decode cX10_must 17 = .ok (.invokevirtual 138, 3) := by decide +kernel
theorem dX10_must_20 : decode cX10_must 20 = .ok (.return_, 1) := by decide +kernel
theorem dX10_word_0 : decode cX10_word 0 = .ok (.lconst 0, 1) := by decide +kernel
theorem dX10_word_1 : decode cX10_word 1 = .ok (.lstore_n 1, 1) := by decide +kernel
theorem dX10_word_2 : decode cX10_word 2 = .ok (.aload_n 0, 1) := by decide +kernel
theorem dX10_word_3 : decode cX10_word 3 = .ok (.getfield 116, 3) := by decide +kernel
theorem dX10_word_6 : decode cX10_word 6 = .ok (.istore_n 3, 1) := by decide +kernel
theorem dX10_word_7 : decode cX10_word 7 = .ok (.iload_n 3, 1) := by decide +kernel
theorem dX10_word_8 : decode cX10_word 8 = .ok (.aload_n 0, 1) := by decide +kernel
theorem dX10_word_9 : decode cX10_word 9 = .ok (.getfield 125, 3) := by decide +kernel
theorem dX10_word_12 : decode cX10_word 12 = .ok (.if_icmp .ge 44, 3) := by decide +kernel
theorem dX10_word_15 : decode cX10_word 15 = .ok (.aload_n 0, 1) := by decide +kernel
theorem dX10_word_16 : decode cX10_word 16 = .ok (.getfield 113, 3) := by decide +kernel
theorem dX10_word_19 : decode cX10_word 19 = .ok (.iconst 2, 1) := by decide +kernel
theorem dX10_word_20 : decode cX10_word 20 = .ok (.if_icmp .ne 36, 3) := by decide +kernel
theorem dX10_word_23 : decode cX10_word 23 = .ok (.aload_n 0, 1) := by decide +kernel
theorem dX10_word_24 : decode cX10_word 24 = .ok (.getfield 125, 3) := by decide +kernel
theorem dX10_word_27 : decode cX10_word 27 = .ok (.aload_n 0, 1) := by decide +kernel
theorem dX10_word_28 : decode cX10_word 28 = .ok (.getfield 116, 3) := by decide +kernel
theorem dX10_word_31 : decode cX10_word 31 = .ok (.isub, 1) := by decide +kernel
theorem dX10_word_32 : decode cX10_word 32 = .ok (.bipush 8, 2) := by decide +kernel
theorem dX10_word_34 : decode cX10_word 34 = .ok (.if_icmp .ge 22, 3) := by decide +kernel
theorem dX10_word_37 : decode cX10_word 37 = .ok (.lload_n 1, 1) := by decide +kernel
theorem dX10_word_38 : decode cX10_word 38 = .ok (.bipush 8, 2) := by decide +kernel
theorem dX10_word_40 : decode cX10_word 40 = .ok (.lshl, 1) := by decide +kernel
theorem dX10_word_41 : decode cX10_word 41 = .ok (.aload_n 0, 1) := by decide +kernel
theorem dX10_word_42 : decode cX10_word 42 = .ok (.getfield 28, 3) := by decide +kernel
theorem dX10_word_45 : decode cX10_word 45 = .ok (.iload_n 3, 1) := by decide +kernel
theorem dX10_word_46 : decode cX10_word 46 = .ok (.iaload, 1) := by decide +kernel
theorem dX10_word_47 : decode cX10_word 47 = .ok (.i2l, 1) := by decide +kernel
theorem dX10_word_48 : decode cX10_word 48 = .ok (.lor, 1) := by decide +kernel
theorem dX10_word_49 : decode cX10_word 49 = .ok (.lstore_n 1, 1) := by decide +kernel
theorem dX10_word_50 : decode cX10_word 50 = .ok (.iinc 3 1, 3) := by decide +kernel
theorem dX10_word_53 : decode cX10_word 53 = .ok (.goto (-46), 3) := by decide +kernel
theorem dX10_word_56 : decode cX10_word 56 = .ok (.aload_n 0, 1) := by decide +kernel
theorem dX10_word_57 : decode cX10_word 57 = .ok (.getfield 128, 3) := by decide +kernel
theorem dX10_word_60 : decode cX10_word 60 = .ok (.ifCond .ne 7, 3) := by decide +kernel
theorem dX10_word_63 : decode cX10_word 63 = .ok (.lload_n 1, 1) := by decide +kernel
theorem dX10_word_64 : decode cX10_word 64 = .ok (.goto 4, 3) := by decide +kernel
theorem dX10_word_67 : decode cX10_word 67 = .ok (.lconst 0, 1) := by decide +kernel
theorem dX10_word_68 : decode cX10_word 68 = .ok (.lreturn, 1) := by decide +kernel
theorem dX10_number_0 : decode cX10_number 0 = .ok (.aload_n 0, 1) := by decide +kernel
theorem dX10_number_1 : decode cX10_number 1 = .ok (.getfield 128, 3) := by decide +kernel
theorem dX10_number_4 : decode cX10_number 4 = .ok (.ifCond .le 5, 3) := by decide +kernel
theorem dX10_number_7 : decode cX10_number 7 = .ok (.iconst 0, 1) := by decide +kernel
theorem dX10_number_8 : decode cX10_number 8 = .ok (.ireturn, 1) := by decide +kernel
theorem dX10_number_9 : decode cX10_number 9 = .ok (.aload_n 0, 1) := by decide +kernel
theorem dX10_number_10 : decode cX10_number 10 = .ok (.getfield 105, 3) := by decide +kernel
theorem dX10_number_13 : decode cX10_number 13 = .ok (.istore_n 3, 1) := by decide +kernel
theorem dX10_number_14 : decode cX10_number 14 = .ok (.aload_n 0, 1) := by decide +kernel
theorem dX10_number_15 : decode cX10_number 15 = .ok (.getfield 113, 3) := by decide +kernel
theorem dX10_number_18 : decode cX10_number 18 = .ok (.iconst 3, 1) := by decide +kernel
theorem dX10_number_19 : decode cX10_number 19 = .ok (.if_icmp .ne 20, 3) := by decide +kernel
theorem dX10_number_22 : decode cX10_number 22 = .ok (.iload_n 3, 1) := by decide +kernel
theorem dX10_number_23 : decode cX10_number 23 = .ok (.i2l, 1) := by decide +kernel
theorem dX10_number_24 : decode cX10_number 24 = .ok (.iload_n 1, 1) := by decide +kernel
theorem dX10_number_25 : decode cX10_number 25 = .ok (.i2l, 1) := by decide +kernel
theorem dX10_number_26 : decode cX10_number 26 = .ok (.iload_n 2, 1) := by decide +kernel
theorem dX10_number_27 : decode cX10_number 27 = .ok (.i2l, 1) := by decide +kernel
theorem dX10_number_28 : decode cX10_number 28 = .ok (.invokestatic 72, 3) := by decide +kernel
theorem dX10_number_31 : decode cX10_number 31 = .ok (.ifCond .ne 8, 3) := by decide +kernel
theorem dX10_number_34 : decode cX10_number 34 = .ok (.aload_n 0, 1) := by decide +kernel
theorem dX10_number_35 : decode cX10_number 35 = .ok (.iconst 2, 1) := by decide +kernel
theorem dX10_number_36 : decode cX10_number 36 = .ok (.invokevirtual 134, 3) := by decide +kernel
theorem dX10_number_39 : decode cX10_number 39 = .ok (.aload_n 0, 1) := by decide +kernel
theorem dX10_number_40 : decode cX10_number 40 = .ok (.aload_n 0, 1) := by decide +kernel
theorem dX10_number_41 : decode cX10_number 41 = .ok (.getfield 113, 3) := by decide +kernel
theorem dX10_number_44 : decode cX10_number 44 = .ok (.iconst 3, 1) := by decide +kernel
theorem dX10_number_45 : decode cX10_number 45 = .ok (.if_icmp .ne 7, 3) := by decide +kernel
theorem dX10_number_48 : decode cX10_number 48 = .ok (.iconst 1, 1) := by decide +kernel
theorem dX10_number_49 : decode cX10_number 49 = .ok (.goto 4, 3) := by decide +kernel
theorem dX10_number_52 : decode cX10_number 52 = .ok (.iconst 0, 1) := by decide +kernel
theorem dX10_number_53 : decode cX10_number 53 = .ok (.invokevirtual 141, 3) := by decide +kernel
theorem dX10_number_56 : decode cX10_number 56 = .ok (.iload_n 3, 1) := by decide +kernel
theorem dX10_number_57 : decode cX10_number 57 = .ok (.ireturn, 1) := by decide +kernel
theorem dX10_mustEnd_0 : decode cX10_mustEnd 0 = .ok (.aload_n 0, 1) := by decide +kernel
theorem dX10_mustEnd_1 : decode cX10_mustEnd 1 = .ok (.getfield 128, 3) := by decide +kernel
theorem dX10_mustEnd_4 : decode cX10_mustEnd 4 = .ok (.ifCond .ne 20, 3) := by decide +kernel
theorem dX10_mustEnd_7 : decode cX10_mustEnd 7 = .ok (.aload_n 0, 1) := by decide +kernel
theorem dX10_mustEnd_8 : decode cX10_mustEnd 8 = .ok (.aload_n 0, 1) := by decide +kernel
theorem dX10_mustEnd_9 : decode cX10_mustEnd 9 = .ok (.getfield 113, 3) := by decide +kernel
theorem dX10_mustEnd_12 : decode cX10_mustEnd 12 = .ok (.iconst 4, 1) := by decide +kernel
theorem dX10_mustEnd_13 : decode cX10_mustEnd 13 = .ok (.if_icmp .ne 7, 3) := by decide +kernel
theorem dX10_mustEnd_16 : decode cX10_mustEnd 16 = .ok (.iconst 1, 1) := by decide +kernel
theorem dX10_mustEnd_17 : decode cX10_mustEnd 17 = .ok (.goto 4, 3) := by decide +kernel
theorem dX10_mustEnd_20 : decode cX10_mustEnd 20 = .ok (.iconst 0, 1) := by decide +kernel
theorem dX10_mustEnd_21 : decode cX10_mustEnd 21 = .ok (.invokevirtual 141, 3) := by decide +kernel
theorem dX10_mustEnd_24 : decode cX10_mustEnd 24 = .ok (.return_, 1) := by decide +kernel
theorem dX10_whatOf_0 : decode cX10_whatOf 0 = .ok (.lload_n 0, 1) := by decide +kernel
theorem dX10_whatOf_1 : decode cX10_whatOf 1 = .ok (.ldc2_w 145, 3) := by decide +kernel
theorem dX10_whatOf_4 : decode cX10_whatOf 4 = .ok (.lcmp, 1) := by decide +kernel
theorem dX10_whatOf_5 : decode cX10_whatOf 5 = .ok (.ifCond .ne 7, 3) := by decide +kernel
theorem dX10_whatOf_8 : decode cX10_whatOf 8 = .ok (.iconst 0, 1) := by decide +kernel
theorem dX10_whatOf_9 : decode cX10_whatOf 9 = .ok (.goto 41, 3) := by decide +kernel
theorem dX10_whatOf_12 : decode cX10_whatOf 12 = .ok (.lload_n 0, 1) := by decide +kernel
theorem dX10_whatOf_13 : decode cX10_whatOf 13 = .ok (.ldc2_w 147, 3) := by decide +kernel
theorem dX10_whatOf_16 : decode cX10_whatOf 16 = .ok (.lcmp, 1) := by decide +kernel
theorem dX10_whatOf_17 : decode cX10_whatOf 17 = .ok (.ifCond .ne 7, 3) := by decide +kernel
theorem dX10_whatOf_20 : decode cX10_whatOf 20 = .ok (.iconst 1, 1) := by decide +kernel
theorem dX10_whatOf_21 : decode cX10_whatOf 21 = .ok (.goto 29, 3) := by decide +kernel
theorem dX10_whatOf_24 : decode cX10_whatOf 24 = .ok (.lload_n 0, 1) := by decide +kernel
theorem dX10_whatOf_25 : decode cX10_whatOf 25 = .ok (.ldc2_w 149, 3) := by decide +kernel
theorem dX10_whatOf_28 : decode cX10_whatOf 28 = .ok (.lcmp, 1) := by decide +kernel
theorem dX10_whatOf_29 : decode cX10_whatOf 29 = .ok (.ifCond .ne 7, 3) := by decide +kernel
theorem dX10_whatOf_32 : decode cX10_whatOf 32 = .ok (.iconst 2, 1) := by decide +kernel
theorem dX10_whatOf_33 : decode cX10_whatOf 33 = .ok (.goto 17, 3) := by decide +kernel
theorem dX10_whatOf_36 : decode cX10_whatOf 36 = .ok (.lload_n 0, 1) := by decide +kernel
theorem dX10_whatOf_37 : decode cX10_whatOf 37 = .ok (.ldc2_w 151, 3) := by decide +kernel
theorem dX10_whatOf_40 : decode cX10_whatOf 40 = .ok (.lcmp, 1) := by decide +kernel
theorem dX10_whatOf_41 : decode cX10_whatOf 41 = .ok (.ifCond .ne 7, 3) := by decide +kernel
theorem dX10_whatOf_44 : decode cX10_whatOf 44 = .ok (.iconst 3, 1) := by decide +kernel
theorem dX10_whatOf_45 : decode cX10_whatOf 45 = .ok (.goto 5, 3) := by decide +kernel
theorem dX10_whatOf_48 : decode cX10_whatOf 48 = .ok (.ldc 98, 2) := by decide +kernel
theorem dX10_whatOf_50 : decode cX10_whatOf 50 = .ok (.ireturn, 1) := by decide +kernel
theorem dX10_doOf_0 : decode cX10_doOf 0 = .ok (.lload_n 0, 1) := by decide +kernel
theorem dX10_doOf_1 : decode cX10_doOf 1 = .ok (.ldc2_w 153, 3) := by decide +kernel
theorem dX10_doOf_4 : decode cX10_doOf 4 = .ok (.lcmp, 1) := by decide +kernel
theorem dX10_doOf_5 : decode cX10_doOf 5 = .ok (.ifCond .ne 7, 3) := by decide +kernel
theorem dX10_doOf_8 : decode cX10_doOf 8 = .ok (.iconst 0, 1) := by decide +kernel
theorem dX10_doOf_9 : decode cX10_doOf 9 = .ok (.goto 41, 3) := by decide +kernel
theorem dX10_doOf_12 : decode cX10_doOf 12 = .ok (.lload_n 0, 1) := by decide +kernel
theorem dX10_doOf_13 : decode cX10_doOf 13 = .ok (.ldc2_w 155, 3) := by decide +kernel
theorem dX10_doOf_16 : decode cX10_doOf 16 = .ok (.lcmp, 1) := by decide +kernel
theorem dX10_doOf_17 : decode cX10_doOf 17 = .ok (.ifCond .ne 7, 3) := by decide +kernel
theorem dX10_doOf_20 : decode cX10_doOf 20 = .ok (.iconst 1, 1) := by decide +kernel
theorem dX10_doOf_21 : decode cX10_doOf 21 = .ok (.goto 29, 3) := by decide +kernel
theorem dX10_doOf_24 : decode cX10_doOf 24 = .ok (.lload_n 0, 1) := by decide +kernel
theorem dX10_doOf_25 : decode cX10_doOf 25 = .ok (.ldc2_w 157, 3) := by decide +kernel
theorem dX10_doOf_28 : decode cX10_doOf 28 = .ok (.lcmp, 1) := by decide +kernel
theorem dX10_doOf_29 : decode cX10_doOf 29 = .ok (.ifCond .ne 7, 3) := by decide +kernel
theorem dX10_doOf_32 : decode cX10_doOf 32 = .ok (.iconst 2, 1) := by decide +kernel
theorem dX10_doOf_33 : decode cX10_doOf 33 = .ok (.goto 17, 3) := by decide +kernel
theorem dX10_doOf_36 : decode cX10_doOf 36 = .ok (.lload_n 0, 1) := by decide +kernel
theorem dX10_doOf_37 : decode cX10_doOf 37 = .ok (.ldc2_w 159, 3) := by decide +kernel
theorem dX10_doOf_40 : decode cX10_doOf 40 = .ok (.lcmp, 1) := by decide +kernel
theorem dX10_doOf_41 : decode cX10_doOf 41 = .ok (.ifCond .ne 7, 3) := by decide +kernel
theorem dX10_doOf_44 : decode cX10_doOf 44 = .ok (.iconst 3, 1) := by decide +kernel
theorem dX10_doOf_45 : decode cX10_doOf 45 = .ok (.goto 5, 3) := by decide +kernel
theorem dX10_doOf_48 : decode cX10_doOf 48 = .ok (.ldc 98, 2) := by decide +kernel
theorem dX10_doOf_50 : decode cX10_doOf 50 = .ok (.ireturn, 1) := by decide +kernel
theorem dX10_named_0 : decode cX10_named 0 = .ok (.aload_n 0, 1) := by decide +kernel
theorem dX10_named_1 : decode cX10_named 1 = .ok (.getfield 128, 3) := by decide +kernel
theorem dX10_named_4 : decode cX10_named 4 = .ok (.ifCond .ne 18, 3) := by decide +kernel
theorem dX10_named_7 : decode cX10_named 7 = .ok (.aload_n 0, 1) := by decide +kernel
theorem dX10_named_8 : decode cX10_named 8 = .ok (.iload_n 1, 1) := by decide +kernel
theorem dX10_named_9 : decode cX10_named 9 = .ok (.ldc 98, 2) := by decide +kernel
theorem dX10_named_11 : decode cX10_named 11 = .ok (.if_icmp .eq 7, 3) := by decide +kernel
theorem dX10_named_14 : decode cX10_named 14 = .ok (.iconst 1, 1) := by decide +kernel
theorem dX10_named_15 : decode cX10_named 15 = .ok (.goto 4, 3) := by decide +kernel
theorem dX10_named_18 : decode cX10_named 18 = .ok (.iconst 0, 1) := by decide +kernel
theorem dX10_named_19 : decode cX10_named 19 = .ok (.invokevirtual 141, 3) := by decide +kernel
theorem dX10_named_22 : decode cX10_named 22 = .ok (.iload_n 1, 1) := by decide +kernel
theorem dX10_named_23 : decode cX10_named 23 = .ok (.ireturn, 1) := by decide +kernel
theorem dX10_leastOf_0 : decode cX10_leastOf 0 = .ok (.iload_n 0, 1) := by decide +kernel
theorem dX10_leastOf_1 : decode cX10_leastOf 1 = .ok (.ifCond .ne 8, 3) := by decide +kernel
theorem dX10_leastOf_4 : decode cX10_leastOf 4 = .ok (.bipush 40, 2) := by decide +kernel
theorem dX10_leastOf_6 : decode cX10_leastOf 6 = .ok (.goto 13, 3) := by decide +kernel
theorem dX10_leastOf_9 : decode cX10_leastOf 9 = .ok (.iload_n 0, 1) := by decide +kernel
theorem dX10_leastOf_10 : decode cX10_leastOf 10 = .ok (.iconst 4, 1) := by decide +kernel
theorem dX10_leastOf_11 : decode cX10_leastOf 11 = .ok (.if_icmp .ne 7, 3) := by decide +kernel
theorem dX10_leastOf_14 : decode cX10_leastOf 14 = .ok (.iconst 0, 1) := by decide +kernel
theorem dX10_leastOf_15 : decode cX10_leastOf 15 = .ok (.goto 4, 3) := by decide +kernel
theorem dX10_leastOf_18 : decode cX10_leastOf 18 = .ok (.iconst 1, 1) := by decide +kernel
theorem dX10_leastOf_19 : decode cX10_leastOf 19 = .ok (.ireturn, 1) := by decide +kernel
theorem dX10_mostOf_0 : decode cX10_mostOf 0 = .ok (.iload_n 0, 1) := by decide +kernel
theorem dX10_mostOf_1 : decode cX10_mostOf 1 = .ok (.ifCond .ne 9, 3) := by decide +kernel
theorem dX10_mostOf_4 : decode cX10_mostOf 4 = .ok (.sipush 150, 3) := by decide +kernel
theorem dX10_mostOf_7 : decode cX10_mostOf 7 = .ok (.goto 36, 3) := by decide +kernel
theorem dX10_mostOf_10 : decode cX10_mostOf 10 = .ok (.iload_n 0, 1) := by decide +kernel
theorem dX10_mostOf_11 : decode cX10_mostOf 11 = .ok (.iconst 1, 1) := by decide +kernel
theorem dX10_mostOf_12 : decode cX10_mostOf 12 = .ok (.if_icmp .ne 9, 3) := by decide +kernel
theorem dX10_mostOf_15 : decode cX10_mostOf 15 = .ok (.sipush 200, 3) := by decide +kernel
theorem dX10_mostOf_18 : decode cX10_mostOf 18 = .ok (.goto 25, 3) := by decide +kernel
theorem dX10_mostOf_21 : decode cX10_mostOf 21 = .ok (.iload_n 0, 1) := by decide +kernel
theorem dX10_mostOf_22 : decode cX10_mostOf 22 = .ok (.iconst 2, 1) := by decide +kernel
theorem dX10_mostOf_23 : decode cX10_mostOf 23 = .ok (.if_icmp .ne 9, 3) := by decide +kernel
theorem dX10_mostOf_26 : decode cX10_mostOf 26 = .ok (.sipush 400, 3) := by decide +kernel
theorem dX10_mostOf_29 : decode cX10_mostOf 29 = .ok (.goto 14, 3) := by decide +kernel
theorem dX10_mostOf_32 : decode cX10_mostOf 32 = .ok (.iload_n 0, 1) := by decide +kernel
theorem dX10_mostOf_33 : decode cX10_mostOf 33 = .ok (.iconst 3, 1) := by decide +kernel
theorem dX10_mostOf_34 : decode cX10_mostOf 34 = .ok (.if_icmp .ne 8, 3) := by decide +kernel
theorem dX10_mostOf_37 : decode cX10_mostOf 37 = .ok (.bipush 60, 2) := by decide +kernel
theorem dX10_mostOf_39 : decode cX10_mostOf 39 = .ok (.goto 4, 3) := by decide +kernel
theorem dX10_mostOf_42 : decode cX10_mostOf 42 = .ok (.iconst 5, 1) := by decide +kernel
theorem dX10_mostOf_43 : decode cX10_mostOf 43 = .ok (.ireturn, 1) := by decide +kernel
theorem dX10_readPuller_0 : decode cX10_readPuller 0 = .ok (.aload_n 0, 1) := by decide +kernel
theorem dX10_readPuller_1 : decode cX10_readPuller 1 = .ok (.getfield 22, 3) := by decide +kernel
theorem dX10_readPuller_4 : decode cX10_readPuller 4 = .ok (.iconst 0, 1) := by decide +kernel
theorem dX10_readPuller_5 : decode cX10_readPuller 5 = .ok (.iload_n 1, 1) := by decide +kernel
theorem dX10_readPuller_6 : decode cX10_readPuller 6 = .ok (.iadd, 1) := by decide +kernel
theorem dX10_readPuller_7 : decode cX10_readPuller 7 = .ok (.iaload, 1) := by decide +kernel
theorem dX10_readPuller_8 : decode cX10_readPuller 8 = .ok (.bipush 8, 2) := by decide +kernel
theorem dX10_readPuller_10 : decode cX10_readPuller 10 = .ok (.if_icmp .ne 8, 3) := by decide +kernel
theorem dX10_readPuller_13 : decode cX10_readPuller 13 = .ok (.aload_n 0, 1) := by decide +kernel
theorem dX10_readPuller_14 : decode cX10_readPuller 14 = .ok (.iconst 3, 1) := by decide +kernel
theorem dX10_readPuller_15 : decode cX10_readPuller 15 = .ok (.invokevirtual 134, 3) := by decide +kernel
theorem dX10_readPuller_18 : decode cX10_readPuller 18 = .ok (.aload_n 0, 1) := by decide +kernel
theorem dX10_readPuller_19 : decode cX10_readPuller 19 = .ok (.iconst 1, 1) := by decide +kernel
theorem dX10_readPuller_20 : decode cX10_readPuller 20 = .ok (.invokevirtual 141, 3) := by decide +kernel
theorem dX10_readPuller_23 : decode cX10_readPuller 23 = .ok (.bipush 8, 2) := by decide +kernel
theorem dX10_readPuller_25 : decode cX10_readPuller 25 = .ok (.bipush 40, 2) := by decide +kernel
theorem dX10_readPuller_27 : decode cX10_readPuller 27 = .ok (.iload_n 1, 1) := by decide +kernel
theorem dX10_readPuller_28 : decode cX10_readPuller 28 = .ok (.imul, 1) := by decide +kernel
theorem dX10_readPuller_29 : decode cX10_readPuller 29 = .ok (.iadd, 1) := by decide +kernel
theorem dX10_readPuller_30 : decode cX10_readPuller 30 = .ok (.iconst 5, 1) := by decide +kernel
theorem dX10_readPuller_31 : decode cX10_readPuller 31 = .ok (.aload_n 0, 1) := by decide +kernel
theorem dX10_readPuller_32 : decode cX10_readPuller 32 = .ok (.getfield 22, 3) := by decide +kernel
theorem dX10_readPuller_35 : decode cX10_readPuller 35 = .ok (.iconst 0, 1) := by decide +kernel
theorem dX10_readPuller_36 : decode cX10_readPuller 36 = .ok (.iload_n 1, 1) := by decide +kernel
theorem dX10_readPuller_37 : decode cX10_readPuller 37 = .ok (.iadd, 1) := by decide +kernel
theorem dX10_readPuller_38 : decode cX10_readPuller 38 = .ok (.iaload, 1) := by decide +kernel
theorem dX10_readPuller_39 : decode cX10_readPuller 39 = .ok (.imul, 1) := by decide +kernel
theorem dX10_readPuller_40 : decode cX10_readPuller 40 = .ok (.iadd, 1) := by decide +kernel
theorem dX10_readPuller_41 : decode cX10_readPuller 41 = .ok (.istore_n 2, 1) := by decide +kernel
theorem dX10_readPuller_42 : decode cX10_readPuller 42 = .ok (.iconst 0, 1) := by decide +kernel
theorem dX10_readPuller_43 : decode cX10_readPuller 43 = .ok (.istore_n 3, 1) := by decide +kernel
theorem dX10_readPuller_44 : decode cX10_readPuller 44 = .ok (.iload_n 3, 1) := by decide +kernel
theorem dX10_readPuller_45 : decode cX10_readPuller 45 = .ok (.iconst 5, 1) := by decide +kernel
theorem dX10_readPuller_46 : decode cX10_readPuller 46 = .ok (.if_icmp .ge 36, 3) := by decide +kernel
theorem dX10_readPuller_49 : decode cX10_readPuller 49 = .ok (.aload_n 0, 1) := by decide +kernel
theorem dX10_readPuller_50 : decode cX10_readPuller 50 = .ok (.getfield 128, 3) := by decide +kernel
theorem dX10_readPuller_53 : decode cX10_readPuller 53 = .ok (.ifCond .ne 29, 3) := by decide +kernel
theorem dX10_readPuller_56 : decode cX10_readPuller 56 = .ok (.aload_n 0, 1) := by decide +kernel
theorem dX10_readPuller_57 : decode cX10_readPuller 57 = .ok (.getfield 22, 3) := by decide +kernel
theorem dX10_readPuller_60 : decode cX10_readPuller 60 = .ok (.iload_n 2, 1) := by decide +kernel
theorem dX10_readPuller_61 : decode cX10_readPuller 61 = .ok (.iload_n 3, 1) := by decide +kernel
theorem dX10_readPuller_62 : decode cX10_readPuller 62 = .ok (.iadd, 1) := by decide +kernel
theorem dX10_readPuller_63 : decode cX10_readPuller 63 = .ok (.aload_n 0, 1) := by decide +kernel
theorem dX10_readPuller_64 : decode cX10_readPuller 64 = .ok (.iload_n 3, 1) := by decide +kernel
theorem dX10_readPuller_65 : decode cX10_readPuller 65 = .ok (.invokestatic 161, 3) := by decide +kernel
theorem dX10_readPuller_68 : decode cX10_readPuller 68 = .ok (.iload_n 3, 1) := by decide +kernel
theorem dX10_readPuller_69 : decode cX10_readPuller 69 = .ok (.invokestatic 164, 3) := by decide +kernel
theorem dX10_readPuller_72 : decode cX10_readPuller 72 = .ok (.invokevirtual 167, 3) := by decide +kernel
theorem dX10_readPuller_75 : decode cX10_readPuller 75 = .ok (.iastore, 1) := by decide +kernel
theorem dX10_readPuller_76 : decode cX10_readPuller 76 = .ok (.iinc 3 1, 3) := by decide +kernel
theorem dX10_readPuller_79 : decode cX10_readPuller 79 = .ok (.goto (-35), 3) := by decide +kernel
theorem dX10_readPuller_82 : decode cX10_readPuller 82 = .ok (.aload_n 0, 1) := by decide +kernel
theorem dX10_readPuller_83 : decode cX10_readPuller 83 = .ok (.invokevirtual 171, 3) := by decide +kernel
theorem dX10_readPuller_86 : decode cX10_readPuller 86 = .ok (.aload_n 0, 1) := by decide +kernel
theorem dX10_readPuller_87 : decode cX10_readPuller 87 = .ok (.getfield 22, 3) := by decide +kernel
theorem dX10_readPuller_90 : decode cX10_readPuller 90 = .ok (.iconst 0, 1) := by decide +kernel
theorem dX10_readPuller_91 : decode cX10_readPuller 91 = .ok (.iload_n 1, 1) := by decide +kernel
theorem dX10_readPuller_92 : decode cX10_readPuller 92 = .ok (.iadd, 1) := by decide +kernel
theorem dX10_readPuller_93 : decode cX10_readPuller 93 = .ok (.dup2, 1) := by decide +kernel
theorem dX10_readPuller_94 : decode cX10_readPuller 94 = .ok (.iaload, 1) := by decide +kernel
theorem dX10_readPuller_95 : decode cX10_readPuller 95 = .ok (.aload_n 0, 1) := by decide +kernel
theorem dX10_readPuller_96 : decode cX10_readPuller 96 = .ok (.getfield 128, 3) := by decide +kernel
theorem dX10_readPuller_99 : decode cX10_readPuller 99 = .ok (.ifCond .ne 7, 3) := by decide +kernel
theorem dX10_readPuller_102 : decode cX10_readPuller 102 = .ok (.iconst 1, 1) := by decide +kernel
theorem dX10_readPuller_103 : decode cX10_readPuller 103 = .ok (.goto 4, 3) := by decide +kernel
theorem dX10_readPuller_106 : decode cX10_readPuller 106 = .ok (.iconst 0, 1) := by decide +kernel
theorem dX10_readPuller_107 : decode cX10_readPuller 107 = .ok (.iadd, 1) := by decide +kernel
theorem dX10_readPuller_108 : decode cX10_readPuller 108 = .ok (.iastore, 1) := by decide +kernel
theorem dX10_readPuller_109 : decode cX10_readPuller 109 = .ok (.return_, 1) := by decide +kernel
theorem dX10_readRule_0 : decode cX10_readRule 0 = .ok (.aload_n 0, 1) := by decide +kernel
theorem dX10_readRule_1 : decode cX10_readRule 1 = .ok (.getfield 22, 3) := by decide +kernel
theorem dX10_readRule_4 : decode cX10_readRule 4 = .ok (.iconst 2, 1) := by decide +kernel
theorem dX10_readRule_5 : decode cX10_readRule 5 = .ok (.iload_n 1, 1) := by decide +kernel
theorem dX10_readRule_6 : decode cX10_readRule 6 = .ok (.iadd, 1) := by decide +kernel
theorem dX10_readRule_7 : decode cX10_readRule 7 = .ok (.iaload, 1) := by decide +kernel
theorem dX10_readRule_8 : decode cX10_readRule 8 = .ok (.bipush 6, 2) := by decide +kernel
theorem dX10_readRule_10 : decode cX10_readRule 10 = .ok (.if_icmp .ne 8, 3) := by decide +kernel
theorem dX10_readRule_13 : decode cX10_readRule 13 = .ok (.aload_n 0, 1) := by decide +kernel
theorem dX10_readRule_14 : decode cX10_readRule 14 = .ok (.iconst 3, 1) := by decide +kernel
theorem dX10_readRule_15 : decode cX10_readRule 15 = .ok (.invokevirtual 134, 3) := by decide +kernel
theorem dX10_readRule_18 : decode cX10_readRule 18 = .ok (.aload_n 0, 1) := by decide +kernel
theorem dX10_readRule_19 : decode cX10_readRule 19 = .ok (.iconst 1, 1) := by decide +kernel
theorem dX10_readRule_20 : decode cX10_readRule 20 = .ok (.invokevirtual 141, 3) := by decide +kernel
theorem dX10_readRule_23 : decode cX10_readRule 23 = .ok (.bipush 88, 2) := by decide +kernel
theorem dX10_readRule_25 : decode cX10_readRule 25 = .ok (.bipush 24, 2) := by decide +kernel
theorem dX10_readRule_27 : decode cX10_readRule 27 = .ok (.iload_n 1, 1) := by decide +kernel
theorem dX10_readRule_28 : decode cX10_readRule 28 = .ok (.imul, 1) := by decide +kernel
theorem dX10_readRule_29 : decode cX10_readRule 29 = .ok (.iadd, 1) := by decide +kernel
theorem dX10_readRule_30 : decode cX10_readRule 30 = .ok (.iconst 4, 1) := by decide +kernel
theorem dX10_readRule_31 : decode cX10_readRule 31 = .ok (.aload_n 0, 1) := by decide +kernel
theorem dX10_readRule_32 : decode cX10_readRule 32 = .ok (.getfield 22, 3) := by decide +kernel
theorem dX10_readRule_35 : decode cX10_readRule 35 = .ok (.iconst 2, 1) := by decide +kernel
theorem dX10_readRule_36 : decode cX10_readRule 36 = .ok (.iload_n 1, 1) := by decide +kernel
theorem dX10_readRule_37 : decode cX10_readRule 37 = .ok (.iadd, 1) := by decide +kernel
theorem dX10_readRule_38 : decode cX10_readRule 38 = .ok (.iaload, 1) := by decide +kernel
theorem dX10_readRule_39 : decode cX10_readRule 39 = .ok (.imul, 1) := by decide +kernel
theorem dX10_readRule_40 : decode cX10_readRule 40 = .ok (.iadd, 1) := by decide +kernel
theorem dX10_readRule_41 : decode cX10_readRule 41 = .ok (.istore_n 2, 1) := by decide +kernel
theorem dX10_readRule_42 : decode cX10_readRule 42 = .ok (.aload_n 0, 1) := by decide +kernel
theorem dX10_readRule_43 : decode cX10_readRule 43 = .ok (.aload_n 0, 1) := by decide +kernel
theorem dX10_readRule_44 : decode cX10_readRule 44 = .ok (.invokevirtual 174, 3) := by decide +kernel
theorem dX10_readRule_47 : decode cX10_readRule 47 = .ok (.invokestatic 178, 3) := by decide +kernel
theorem dX10_readRule_50 : decode cX10_readRule 50 = .ok (.invokevirtual 182, 3) := by decide +kernel
theorem dX10_readRule_53 : decode cX10_readRule 53 = .ok (.istore_n 3, 1) := by decide +kernel
theorem dX10_readRule_54 : decode cX10_readRule 54 = .ok (.aload_n 0, 1) := by decide +kernel
theorem dX10_readRule_55 : decode cX10_readRule 55 = .ok (.invokevirtual 174, 3) := by decide +kernel
theorem dX10_readRule_58 : decode cX10_readRule 58 = .ok (.lstore 4, 2) := by decide +kernel
theorem dX10_readRule_60 : decode cX10_readRule 60 = .ok (.aload_n 0, 1) := by decide +kernel
theorem dX10_readRule_61 : decode cX10_readRule 61 = .ok (.getfield 128, 3) := by decide +kernel
theorem dX10_readRule_64 : decode cX10_readRule 64 = .ok (.ifCond .ne 30, 3) := by decide +kernel
theorem dX10_readRule_67 : decode cX10_readRule 67 = .ok (.aload_n 0, 1) := by decide +kernel
theorem dX10_readRule_68 : decode cX10_readRule 68 = .ok (.lload 4, 2) := by decide +kernel
theorem dX10_readRule_70 : decode cX10_readRule 70 = .ok (.ldc2_w 185, 3) := by decide +kernel
theorem dX10_readRule_73 : decode cX10_readRule 73 = .ok (.lcmp, 1) := by decide +kernel
theorem dX10_readRule_74 : decode cX10_readRule 74 = .ok (.ifCond .eq 12, 3) := by decide +kernel
theorem dX10_readRule_77 : decode cX10_readRule 77 = .ok (.lload 4, 2) := by decide +kernel
theorem dX10_readRule_79 : decode cX10_readRule 79 = .ok (.ldc2_w 187, 3) := by decide +kernel
theorem dX10_readRule_82 : decode cX10_readRule 82 = .ok (.lcmp, 1) := by decide +kernel
theorem dX10_readRule_83 : decode cX10_readRule 83 = .ok (.ifCond .ne 7, 3) := by decide +kernel
theorem dX10_readRule_86 : decode cX10_readRule 86 = .ok (.iconst 1, 1) := by decide +kernel
theorem dX10_readRule_87 : decode cX10_readRule 87 = .ok (.goto 4, 3) := by decide +kernel
theorem dX10_readRule_90 : decode cX10_readRule 90 = .ok (.iconst 0, 1) := by decide +kernel
theorem dX10_readRule_91 : decode cX10_readRule 91 = .ok (.invokevirtual 141, 3) := by decide +kernel
theorem dX10_readRule_94 : decode cX10_readRule 94 = .ok (.aload_n 0, 1) := by decide +kernel
theorem dX10_readRule_95 : decode cX10_readRule 95 = .ok (.bipush (-99), 2) := by decide +kernel
theorem dX10_readRule_97 : decode cX10_readRule 97 = .ok (.sipush 999, 3) := by decide +kernel
theorem dX10_readRule_100 : decode cX10_readRule 100 = .ok (.invokevirtual 167, 3) := by decide +kernel
theorem dX10_readRule_103 : decode cX10_readRule 103 = .ok (.istore 6, 2) := by decide +kernel
theorem dX10_readRule_105 : decode cX10_readRule 105 = .ok (.aload_n 0, 1) := by decide +kernel
theorem dX10_readRule_106 : decode cX10_readRule 106 = .ok (.aload_n 0, 1) := by decide +kernel
theorem dX10_readRule_107 : decode cX10_readRule 107 = .ok (.invokevirtual 174, 3) := by decide +kernel
theorem dX10_readRule_110 : decode cX10_readRule 110 = .ok (.invokestatic 189, 3) := by decide +kernel
theorem dX10_readRule_113 : decode cX10_readRule 113 = .ok (.invokevirtual 182, 3) := by decide +kernel
theorem dX10_readRule_116 : decode cX10_readRule 116 = .ok (.istore 7, 2) := by decide +kernel
theorem dX10_readRule_118 : decode cX10_readRule 118 = .ok (.aload_n 0, 1) := by decide +kernel
theorem dX10_readRule_119 : decode cX10_readRule 119 = .ok (.invokevirtual 171, 3) := by decide +kernel
theorem dX10_readRule_122 : decode cX10_readRule 122 = .ok (.aload_n 0, 1) := by decide +kernel
theorem dX10_readRule_123 : decode cX10_readRule 123 = .ok (.getfield 128, 3) := by decide +kernel
theorem dX10_readRule_126 : decode cX10_readRule 126 = .ok (.ifCond .ne 64, 3) := by decide +kernel
theorem dX10_readRule_129 : decode cX10_readRule 129 = .ok (.aload_n 0, 1) := by decide +kernel
theorem dX10_readRule_130 : decode cX10_readRule 130 = .ok (.getfield 22, 3) := by decide +kernel
theorem dX10_readRule_133 : decode cX10_readRule 133 = .ok (.iload_n 2, 1) := by decide +kernel
theorem dX10_readRule_134 : decode cX10_readRule 134 = .ok (.iload_n 3, 1) := by decide +kernel
theorem dX10_readRule_135 : decode cX10_readRule 135 = .ok (.iastore, 1) := by decide +kernel
theorem dX10_readRule_136 : decode cX10_readRule 136 = .ok (.aload_n 0, 1) := by decide +kernel
theorem dX10_readRule_137 : decode cX10_readRule 137 = .ok (.getfield 22, 3) := by decide +kernel
theorem dX10_readRule_140 : decode cX10_readRule 140 = .ok (.iload_n 2, 1) := by decide +kernel
theorem dX10_readRule_141 : decode cX10_readRule 141 = .ok (.iconst 1, 1) := by decide +kernel
theorem dX10_readRule_142 : decode cX10_readRule 142 = .ok (.iadd, 1) := by decide +kernel
theorem dX10_readRule_143 : decode cX10_readRule 143 = .ok (.lload 4, 2) := by decide +kernel
theorem dX10_readRule_145 : decode cX10_readRule 145 = .ok (.ldc2_w 187, 3) := by decide +kernel
theorem dX10_readRule_148 : decode cX10_readRule 148 = .ok (.lcmp, 1) := by decide +kernel
theorem dX10_readRule_149 : decode cX10_readRule 149 = .ok (.ifCond .ne 7, 3) := by decide +kernel
theorem dX10_readRule_152 : decode cX10_readRule 152 = .ok (.iconst 1, 1) := by decide +kernel
theorem dX10_readRule_153 : decode cX10_readRule 153 = .ok (.goto 4, 3) := by decide +kernel
theorem dX10_readRule_156 : decode cX10_readRule 156 = .ok (.iconst 0, 1) := by decide +kernel
theorem dX10_readRule_157 : decode cX10_readRule 157 = .ok (.iastore, 1) := by decide +kernel
theorem dX10_readRule_158 : decode cX10_readRule 158 = .ok (.aload_n 0, 1) := by decide +kernel
theorem dX10_readRule_159 : decode cX10_readRule 159 = .ok (.getfield 22, 3) := by decide +kernel
theorem dX10_readRule_162 : decode cX10_readRule 162 = .ok (.iload_n 2, 1) := by decide +kernel
theorem dX10_readRule_163 : decode cX10_readRule 163 = .ok (.iconst 2, 1) := by decide +kernel
theorem dX10_readRule_164 : decode cX10_readRule 164 = .ok (.iadd, 1) := by decide +kernel
theorem dX10_readRule_165 : decode cX10_readRule 165 = .ok (.iload 6, 2) := by decide +kernel
theorem dX10_readRule_167 : decode cX10_readRule 167 = .ok (.iastore, 1) := by decide +kernel
theorem dX10_readRule_168 : decode cX10_readRule 168 = .ok (.aload_n 0, 1) := by decide +kernel
theorem dX10_readRule_169 : decode cX10_readRule 169 = .ok (.getfield 22, 3) := by decide +kernel
theorem dX10_readRule_172 : decode cX10_readRule 172 = .ok (.iload_n 2, 1) := by decide +kernel
theorem dX10_readRule_173 : decode cX10_readRule 173 = .ok (.iconst 3, 1) := by decide +kernel
theorem dX10_readRule_174 : decode cX10_readRule 174 = .ok (.iadd, 1) := by decide +kernel
theorem dX10_readRule_175 : decode cX10_readRule 175 = .ok (.iload 7, 2) := by decide +kernel
theorem dX10_readRule_177 : decode cX10_readRule 177 = .ok (.iastore, 1) := by decide +kernel
theorem dX10_readRule_178 : decode cX10_readRule 178 = .ok (.aload_n 0, 1) := by decide +kernel
theorem dX10_readRule_179 : decode cX10_readRule 179 = .ok (.getfield 22, 3) := by decide +kernel
theorem dX10_readRule_182 : decode cX10_readRule 182 = .ok (.iconst 2, 1) := by decide +kernel
theorem dX10_readRule_183 : decode cX10_readRule 183 = .ok (.iload_n 1, 1) := by decide +kernel
theorem dX10_readRule_184 : decode cX10_readRule 184 = .ok (.iadd, 1) := by decide +kernel
theorem dX10_readRule_185 : decode cX10_readRule 185 = .ok (.dup2, 1) := by decide +kernel
theorem dX10_readRule_186 : decode cX10_readRule 186 = .ok (.iaload, 1) := by decide +kernel
theorem dX10_readRule_187 : decode cX10_readRule 187 = .ok (.iconst 1, 1) := by decide +kernel
theorem dX10_readRule_188 : decode cX10_readRule 188 = .ok (.iadd, 1) := by decide +kernel
theorem dX10_readRule_189 : decode cX10_readRule 189 = .ok (.iastore, 1) := by decide +kernel
theorem dX10_readRule_190 : decode cX10_readRule 190 = .ok (.return_, 1) := by decide +kernel
theorem dX10_readSide_0 : decode cX10_readSide 0 = .ok (.aload_n 0, 1) := by decide +kernel
theorem dX10_readSide_1 : decode cX10_readSide 1 = .ok (.getfield 128, 3) := by decide +kernel
theorem dX10_readSide_4 : decode cX10_readSide 4 = .ok (.ifCond .ne 23, 3) := by decide +kernel
theorem dX10_readSide_7 : decode cX10_readSide 7 = .ok (.aload_n 0, 1) := by decide +kernel
theorem dX10_readSide_8 : decode cX10_readSide 8 = .ok (.aload_n 0, 1) := by decide +kernel
theorem dX10_readSide_9 : decode cX10_readSide 9 = .ok (.invokevirtual 174, 3) := by decide +kernel
theorem dX10_readSide_12 : decode cX10_readSide 12 = .ok (.ldc2_w 192, 3) := by decide +kernel
theorem dX10_readSide_15 : decode cX10_readSide 15 = .ok (.lcmp, 1) := by decide +kernel
theorem dX10_readSide_16 : decode cX10_readSide 16 = .ok (.ifCond .ne 7, 3) := by decide +kernel
theorem dX10_readSide_19 : decode cX10_readSide 19 = .ok (.iconst 1, 1) := by decide +kernel
theorem dX10_readSide_20 : decode cX10_readSide 20 = .ok (.goto 4, 3) := by decide +kernel
theorem dX10_readSide_23 : decode cX10_readSide 23 = .ok (.iconst 0, 1) := by decide +kernel
theorem dX10_readSide_24 : decode cX10_readSide 24 = .ok (.invokevirtual 141, 3) := by decide +kernel
theorem dX10_readSide_27 : decode cX10_readSide 27 = .ok (.aload_n 0, 1) := by decide +kernel
theorem dX10_readSide_28 : decode cX10_readSide 28 = .ok (.invokevirtual 171, 3) := by decide +kernel
theorem dX10_readSide_31 : decode cX10_readSide 31 = .ok (.aload_n 0, 1) := by decide +kernel
theorem dX10_readSide_32 : decode cX10_readSide 32 = .ok (.invokevirtual 174, 3) := by decide +kernel
theorem dX10_readSide_35 : decode cX10_readSide 35 = .ok (.ldc2_w 194, 3) := by decide +kernel
theorem dX10_readSide_38 : decode cX10_readSide 38 = .ok (.lcmp, 1) := by decide +kernel
theorem dX10_readSide_39 : decode cX10_readSide 39 = .ok (.ifCond .eq 8, 3) := by decide +kernel
theorem dX10_readSide_42 : decode cX10_readSide 42 = .ok (.aload_n 0, 1) := by decide +kernel
theorem dX10_readSide_43 : decode cX10_readSide 43 = .ok (.iconst 1, 1) := by decide +kernel
theorem dX10_readSide_44 : decode cX10_readSide 44 = .ok (.invokevirtual 134, 3) := by decide +kernel
theorem dX10_readSide_47 : decode cX10_readSide 47 = .ok (.aload_n 0, 1) := by decide +kernel
theorem dX10_readSide_48 : decode cX10_readSide 48 = .ok (.invokevirtual 174, 3) := by decide +kernel
theorem dX10_readSide_51 : decode cX10_readSide 51 = .ok (.ldc2_w 194, 3) := by decide +kernel
theorem dX10_readSide_54 : decode cX10_readSide 54 = .ok (.lcmp, 1) := by decide +kernel
theorem dX10_readSide_55 : decode cX10_readSide 55 = .ok (.ifCond .ne 11, 3) := by decide +kernel
theorem dX10_readSide_58 : decode cX10_readSide 58 = .ok (.aload_n 0, 1) := by decide +kernel
theorem dX10_readSide_59 : decode cX10_readSide 59 = .ok (.iload_n 1, 1) := by decide +kernel
theorem dX10_readSide_60 : decode cX10_readSide 60 = .ok (.invokevirtual 196, 3) := by decide +kernel
theorem dX10_readSide_63 : decode cX10_readSide 63 = .ok (.goto (-16), 3) := by decide +kernel
theorem dX10_readSide_66 : decode cX10_readSide 66 = .ok (.aload_n 0, 1) := by decide +kernel
theorem dX10_readSide_67 : decode cX10_readSide 67 = .ok (.invokevirtual 174, 3) := by decide +kernel
theorem dX10_readSide_70 : decode cX10_readSide 70 = .ok (.ldc2_w 199, 3) := by decide +kernel
theorem dX10_readSide_73 : decode cX10_readSide 73 = .ok (.lcmp, 1) := by decide +kernel
theorem dX10_readSide_74 : decode cX10_readSide 74 = .ok (.ifCond .ne 11, 3) := by decide +kernel
theorem dX10_readSide_77 : decode cX10_readSide 77 = .ok (.aload_n 0, 1) := by decide +kernel
theorem dX10_readSide_78 : decode cX10_readSide 78 = .ok (.iload_n 1, 1) := by decide +kernel
theorem dX10_readSide_79 : decode cX10_readSide 79 = .ok (.invokevirtual 201, 3) := by decide +kernel
theorem dX10_readSide_82 : decode cX10_readSide 82 = .ok (.goto (-16), 3) := by decide +kernel
theorem dX10_readSide_85 : decode cX10_readSide 85 = .ok (.return_, 1) := by decide +kernel
theorem dX10_match_0 : decode cX10_match 0 = .ok (.aload_n 0, 1) := by decide +kernel
theorem dX10_match_1 : decode cX10_match 1 = .ok (.iconst 0, 1) := by decide +kernel
theorem dX10_match_2 : decode cX10_match 2 = .ok (.putfield 62, 3) := by decide +kernel
theorem dX10_match_5 : decode cX10_match 5 = .ok (.aload_n 0, 1) := by decide +kernel
theorem dX10_match_6 : decode cX10_match 6 = .ok (.aload_n 0, 1) := by decide +kernel
theorem dX10_match_7 : decode cX10_match 7 = .ok (.getfield 89, 3) := by decide +kernel
theorem dX10_match_10 : decode cX10_match 10 = .ok (.putfield 95, 3) := by decide +kernel
theorem dX10_match_13 : decode cX10_match 13 = .ok (.aload_n 0, 1) := by decide +kernel
theorem dX10_match_14 : decode cX10_match 14 = .ok (.iconst 0, 1) := by decide +kernel
theorem dX10_match_15 : decode cX10_match 15 = .ok (.putfield 89, 3) := by decide +kernel
theorem dX10_match_18 : decode cX10_match 18 = .ok (.aload_n 0, 1) := by decide +kernel
theorem dX10_match_19 : decode cX10_match 19 = .ok (.iconst 0, 1) := by decide +kernel
theorem dX10_match_20 : decode cX10_match 20 = .ok (.putfield 99, 3) := by decide +kernel
theorem dX10_match_23 : decode cX10_match 23 = .ok (.aload_n 0, 1) := by decide +kernel
theorem dX10_match_24 : decode cX10_match 24 = .ok (.iconst 0, 1) := by decide +kernel
theorem dX10_match_25 : decode cX10_match 25 = .ok (.putfield 128, 3) := by decide +kernel
theorem dX10_match_28 : decode cX10_match 28 = .ok (.iconst 0, 1) := by decide +kernel
theorem dX10_match_29 : decode cX10_match 29 = .ok (.istore_n 1, 1) := by decide +kernel
theorem dX10_match_30 : decode cX10_match 30 = .ok (.iload_n 1, 1) := by decide +kernel
theorem dX10_match_31 : decode cX10_match 31 = .ok (.sipush 136, 3) := by decide +kernel
theorem dX10_match_34 : decode cX10_match 34 = .ok (.if_icmp .ge 16, 3) := by decide +kernel
theorem dX10_match_37 : decode cX10_match 37 = .ok (.aload_n 0, 1) := by decide +kernel
theorem dX10_match_38 : decode cX10_match 38 = .ok (.getfield 22, 3) := by decide +kernel
theorem dX10_match_41 : decode cX10_match 41 = .ok (.iload_n 1, 1) := by decide +kernel
theorem dX10_match_42 : decode cX10_match 42 = .ok (.iconst 0, 1) := by decide +kernel
theorem dX10_match_43 : decode cX10_match 43 = .ok (.iastore, 1) := by decide +kernel
theorem dX10_match_44 : decode cX10_match 44 = .ok (.iinc 1 1, 3) := by decide +kernel
theorem dX10_match_47 : decode cX10_match 47 = .ok (.goto (-17), 3) := by decide +kernel
theorem dX10_match_50 : decode cX10_match 50 = .ok (.aload_n 0, 1) := by decide +kernel
theorem dX10_match_51 : decode cX10_match 51 = .ok (.getfield 22, 3) := by decide +kernel
theorem dX10_match_54 : decode cX10_match 54 = .ok (.iconst 5, 1) := by decide +kernel
theorem dX10_match_55 : decode cX10_match 55 = .ok (.bipush 100, 2) := by decide +kernel
theorem dX10_match_57 : decode cX10_match 57 = .ok (.iastore, 1) := by decide +kernel
theorem dX10_match_58 : decode cX10_match 58 = .ok (.aload_n 0, 1) := by decide +kernel
theorem dX10_match_59 : decode cX10_match 59 = .ok (.getfield 22, 3) := by decide +kernel
theorem dX10_match_62 : decode cX10_match 62 = .ok (.bipush 7, 2) := by decide +kernel
theorem dX10_match_64 : decode cX10_match 64 = .ok (.bipush 20, 2) := by decide +kernel
theorem dX10_match_66 : decode cX10_match 66 = .ok (.iastore, 1) := by decide +kernel
theorem dX10_match_67 : decode cX10_match 67 = .ok (.aload_n 0, 1) := by decide +kernel
theorem dX10_match_68 : decode cX10_match 68 = .ok (.invokevirtual 138, 3) := by decide +kernel
theorem dX10_match_71 : decode cX10_match 71 = .ok (.aload_n 0, 1) := by decide +kernel
theorem dX10_match_72 : decode cX10_match 72 = .ok (.iconst 0, 1) := by decide +kernel
theorem dX10_match_73 : decode cX10_match 73 = .ok (.invokevirtual 204, 3) := by decide +kernel
theorem dX10_match_76 : decode cX10_match 76 = .ok (.aload_n 0, 1) := by decide +kernel
theorem dX10_match_77 : decode cX10_match 77 = .ok (.iconst 1, 1) := by decide +kernel
theorem dX10_match_78 : decode cX10_match 78 = .ok (.invokevirtual 204, 3) := by decide +kernel
theorem dX10_match_81 : decode cX10_match 81 = .ok (.aload_n 0, 1) := by decide +kernel
theorem dX10_match_82 : decode cX10_match 82 = .ok (.invokevirtual 174, 3) := by decide +kernel
theorem dX10_match_85 : decode cX10_match 85 = .ok (.ldc2_w 207, 3) := by decide +kernel
theorem dX10_match_88 : decode cX10_match 88 = .ok (.lcmp, 1) := by decide +kernel
theorem dX10_match_89 : decode cX10_match 89 = .ok (.ifCond .ne 53, 3) := by decide +kernel
theorem dX10_match_92 : decode cX10_match 92 = .ok (.aload_n 0, 1) := by decide +kernel
theorem dX10_match_93 : decode cX10_match 93 = .ok (.iconst 1, 1) := by decide +kernel
theorem dX10_match_94 : decode cX10_match 94 = .ok (.invokevirtual 141, 3) := by decide +kernel
theorem dX10_match_97 : decode cX10_match 97 = .ok (.aload_n 0, 1) := by decide +kernel
theorem dX10_match_98 : decode cX10_match 98 = .ok (.getfield 22, 3) := by decide +kernel
theorem dX10_match_101 : decode cX10_match 101 = .ok (.iconst 5, 1) := by decide +kernel
theorem dX10_match_102 : decode cX10_match 102 = .ok (.aload_n 0, 1) := by decide +kernel
theorem dX10_match_103 : decode cX10_match 103 = .ok (.iconst 1, 1) := by decide +kernel
theorem dX10_match_104 : decode cX10_match 104 = .ok (.bipush 100, 2) := by decide +kernel
theorem dX10_match_106 : decode cX10_match 106 = .ok (.invokevirtual 167, 3) := by decide +kernel
theorem dX10_match_109 : decode cX10_match 109 = .ok (.iastore, 1) := by decide +kernel
theorem dX10_match_110 : decode cX10_match 110 = .ok (.aload_n 0, 1) := by decide +kernel
theorem dX10_match_111 : decode cX10_match 111 = .ok (.getfield 22, 3) := by decide +kernel
theorem dX10_match_114 : decode cX10_match 114 = .ok (.bipush 6, 2) := by decide +kernel
theorem dX10_match_116 : decode cX10_match 116 = .ok (.aload_n 0, 1) := by decide +kernel
theorem dX10_match_117 : decode cX10_match 117 = .ok (.iconst 0, 1) := by decide +kernel
theorem dX10_match_118 : decode cX10_match 118 = .ok (.bipush 20, 2) := by decide +kernel
theorem dX10_match_120 : decode cX10_match 120 = .ok (.invokevirtual 167, 3) := by decide +kernel
theorem dX10_match_123 : decode cX10_match 123 = .ok (.iastore, 1) := by decide +kernel
theorem dX10_match_124 : decode cX10_match 124 = .ok (.aload_n 0, 1) := by decide +kernel
theorem dX10_match_125 : decode cX10_match 125 = .ok (.getfield 22, 3) := by decide +kernel
theorem dX10_match_128 : decode cX10_match 128 = .ok (.bipush 7, 2) := by decide +kernel
theorem dX10_match_130 : decode cX10_match 130 = .ok (.aload_n 0, 1) := by decide +kernel
theorem dX10_match_131 : decode cX10_match 131 = .ok (.iconst 1, 1) := by decide +kernel
theorem dX10_match_132 : decode cX10_match 132 = .ok (.bipush 99, 2) := by decide +kernel
theorem dX10_match_134 : decode cX10_match 134 = .ok (.invokevirtual 167, 3) := by decide +kernel
theorem dX10_match_137 : decode cX10_match 137 = .ok (.iastore, 1) := by decide +kernel
theorem dX10_match_138 : decode cX10_match 138 = .ok (.aload_n 0, 1) := by decide +kernel
theorem dX10_match_139 : decode cX10_match 139 = .ok (.invokevirtual 171, 3) := by decide +kernel
theorem dX10_match_142 : decode cX10_match 142 = .ok (.aload_n 0, 1) := by decide +kernel
theorem dX10_match_143 : decode cX10_match 143 = .ok (.getfield 128, 3) := by decide +kernel
theorem dX10_match_146 : decode cX10_match 146 = .ok (.ifCond .ne 16, 3) := by decide +kernel
theorem dX10_match_149 : decode cX10_match 149 = .ok (.aload_n 0, 1) := by decide +kernel
theorem dX10_match_150 : decode cX10_match 150 = .ok (.getfield 113, 3) := by decide +kernel
theorem dX10_match_153 : decode cX10_match 153 = .ok (.iconst 1, 1) := by decide +kernel
theorem dX10_match_154 : decode cX10_match 154 = .ok (.if_icmp .eq 8, 3) := by decide +kernel
theorem dX10_match_157 : decode cX10_match 157 = .ok (.aload_n 0, 1) := by decide +kernel
theorem dX10_match_158 : decode cX10_match 158 = .ok (.iconst 1, 1) := by decide +kernel
theorem dX10_match_159 : decode cX10_match 159 = .ok (.invokevirtual 134, 3) := by decide +kernel
theorem dX10_match_162 : decode cX10_match 162 = .ok (.aload_n 0, 1) := by decide +kernel
theorem dX10_match_163 : decode cX10_match 163 = .ok (.getfield 128, 3) := by decide +kernel
theorem dX10_match_166 : decode cX10_match 166 = .ok (.ifCond .le 19, 3) := by decide +kernel
theorem dX10_match_169 : decode cX10_match 169 = .ok (.aload_n 0, 1) := by decide +kernel
theorem dX10_match_170 : decode cX10_match 170 = .ok (.aload_n 0, 1) := by decide +kernel
theorem dX10_match_171 : decode cX10_match 171 = .ok (.getfield 128, 3) := by decide +kernel
theorem dX10_match_174 : decode cX10_match 174 = .ok (.putfield 209, 3) := by decide +kernel
theorem dX10_match_177 : decode cX10_match 177 = .ok (.ldc 212, 2) := by decide +kernel
theorem dX10_match_179 : decode cX10_match 179 = .ok (.aload_n 0, 1) := by decide +kernel
theorem dX10_match_180 : decode cX10_match 180 = .ok (.getfield 131, 3) := by decide +kernel
theorem dX10_match_183 : decode cX10_match 183 = .ok (.isub, 1) := by decide +kernel
theorem dX10_match_184 : decode cX10_match 184 = .ok (.ireturn, 1) := by decide +kernel
theorem dX10_match_185 : decode cX10_match 185 = .ok (.aload_n 0, 1) := by decide +kernel
theorem dX10_match_186 : decode cX10_match 186 = .ok (.iconst 1, 1) := by decide +kernel
theorem dX10_match_187 : decode cX10_match 187 = .ok (.putfield 213, 3) := by decide +kernel
theorem dX10_match_190 : decode cX10_match 190 = .ok (.iconst 0, 1) := by decide +kernel
theorem dX10_match_191 : decode cX10_match 191 = .ok (.istore_n 1, 1) := by decide +kernel
theorem dX10_match_192 : decode cX10_match 192 = .ok (.iload_n 1, 1) := by decide +kernel
theorem dX10_match_193 : decode cX10_match 193 = .ok (.sipush 136, 3) := by decide +kernel
theorem dX10_match_196 : decode cX10_match 196 = .ok (.if_icmp .ge 21, 3) := by decide +kernel
theorem dX10_match_199 : decode cX10_match 199 = .ok (.aload_n 0, 1) := by decide +kernel
theorem dX10_match_200 : decode cX10_match 200 = .ok (.getfield 19, 3) := by decide +kernel
theorem dX10_match_203 : decode cX10_match 203 = .ok (.iload_n 1, 1) := by decide +kernel
theorem dX10_match_204 : decode cX10_match 204 = .ok (.aload_n 0, 1) := by decide +kernel
theorem dX10_match_205 : decode cX10_match 205 = .ok (.getfield 22, 3) := by decide +kernel
theorem dX10_match_208 : decode cX10_match 208 = .ok (.iload_n 1, 1) := by decide +kernel
theorem dX10_match_209 : decode cX10_match 209 = .ok (.iaload, 1) := by decide +kernel
theorem dX10_match_210 : decode cX10_match 210 = .ok (.iastore, 1) := by decide +kernel
theorem dX10_match_211 : decode cX10_match 211 = .ok (.iinc 1 1, 3) := by decide +kernel
theorem dX10_match_214 : decode cX10_match 214 = .ok (.goto (-22), 3) := by decide +kernel
theorem dX10_match_217 : decode cX10_match 217 = .ok (.iconst 0, 1) := by decide +kernel
theorem dX10_match_218 : decode cX10_match 218 = .ok (.istore_n 1, 1) := by decide +kernel
theorem dX10_match_219 : decode cX10_match 219 = .ok (.iload_n 1, 1) := by decide +kernel
theorem dX10_match_220 : decode cX10_match 220 = .ok (.sipush 370, 3) := by decide +kernel
theorem dX10_match_223 : decode cX10_match 223 = .ok (.if_icmp .ge 16, 3) := by decide +kernel
theorem dX10_match_226 : decode cX10_match 226 = .ok (.aload_n 0, 1) := by decide +kernel
theorem dX10_match_227 : decode cX10_match 227 = .ok (.getfield 25, 3) := by decide +kernel
theorem dX10_match_230 : decode cX10_match 230 = .ok (.iload_n 1, 1) := by decide +kernel
theorem dX10_match_231 : decode cX10_match 231 = .ok (.iconst 0, 1) := by decide +kernel
theorem dX10_match_232 : decode cX10_match 232 = .ok (.iastore, 1) := by decide +kernel
theorem dX10_match_233 : decode cX10_match 233 = .ok (.iinc 1 1, 3) := by decide +kernel
theorem dX10_match_236 : decode cX10_match 236 = .ok (.goto (-17), 3) := by decide +kernel
theorem dX10_match_239 : decode cX10_match 239 = .ok (.aload_n 0, 1) := by decide +kernel
theorem dX10_match_240 : decode cX10_match 240 = .ok (.getfield 25, 3) := by decide +kernel
theorem dX10_match_243 : decode cX10_match 243 = .ok (.iconst 0, 1) := by decide +kernel
theorem dX10_match_244 : decode cX10_match 244 = .ok (.aload_n 0, 1) := by decide +kernel
theorem dX10_match_245 : decode cX10_match 245 = .ok (.getfield 19, 3) := by decide +kernel
theorem dX10_match_248 : decode cX10_match 248 = .ok (.iconst 5, 1) := by decide +kernel
theorem dX10_match_249 : decode cX10_match 249 = .ok (.iaload, 1) := by decide +kernel
theorem dX10_match_250 : decode cX10_match 250 = .ok (.iastore, 1) := by decide +kernel
theorem dX10_match_251 : decode cX10_match 251 = .ok (.aload_n 0, 1) := by decide +kernel
theorem dX10_match_252 : decode cX10_match 252 = .ok (.getfield 25, 3) := by decide +kernel
theorem dX10_match_255 : decode cX10_match 255 = .ok (.iconst 1, 1) := by decide +kernel
theorem dX10_match_256 : decode cX10_match 256 = .ok (.aload_n 0, 1) := by decide +kernel
theorem dX10_match_257 : decode cX10_match 257 = .ok (.getfield 19, 3) := by decide +kernel
theorem dX10_match_260 : decode cX10_match 260 = .ok (.iconst 5, 1) := by decide +kernel
theorem dX10_match_261 : decode cX10_match 261 = .ok (.iaload, 1) := by decide +kernel
theorem dX10_match_262 : decode cX10_match 262 = .ok (.iastore, 1) := by decide +kernel
theorem dX10_match_263 : decode cX10_match 263 = .ok (.aload_n 0, 1) := by decide +kernel
theorem dX10_match_264 : decode cX10_match 264 = .ok (.getfield 19, 3) := by decide +kernel
theorem dX10_match_267 : decode cX10_match 267 = .ok (.iconst 0, 1) := by decide +kernel
theorem dX10_match_268 : decode cX10_match 268 = .ok (.iaload, 1) := by decide +kernel
theorem dX10_match_269 : decode cX10_match 269 = .ok (.aload_n 0, 1) := by decide +kernel
theorem dX10_match_270 : decode cX10_match 270 = .ok (.getfield 19, 3) := by decide +kernel
theorem dX10_match_273 : decode cX10_match 273 = .ok (.iconst 1, 1) := by decide +kernel
theorem dX10_match_274 : decode cX10_match 274 = .ok (.iaload, 1) := by decide +kernel
theorem dX10_match_275 : decode cX10_match 275 = .ok (.iadd, 1) := by decide +kernel
theorem dX10_match_276 : decode cX10_match 276 = .ok (.ireturn, 1) := by decide +kernel
theorem dX10_fault_0 : decode cX10_fault 0 = .ok (.aload_n 0, 1) := by decide +kernel
theorem dX10_fault_1 : decode cX10_fault 1 = .ok (.iconst 0, 1) := by decide +kernel
theorem dX10_fault_2 : decode cX10_fault 2 = .ok (.putfield 62, 3) := by decide +kernel
theorem dX10_fault_5 : decode cX10_fault 5 = .ok (.aload_n 0, 1) := by decide +kernel
theorem dX10_fault_6 : decode cX10_fault 6 = .ok (.getfield 209, 3) := by decide +kernel
theorem dX10_fault_9 : decode cX10_fault 9 = .ok (.ireturn, 1) := by decide +kernel
theorem dX10_isSide_0 : decode cX10_isSide 0 = .ok (.iload_n 0, 1) := by decide +kernel
theorem dX10_isSide_1 : decode cX10_isSide 1 = .ok (.i2l, 1) := by decide +kernel
theorem dX10_isSide_2 : decode cX10_isSide 2 = .ok (.lconst 0, 1) := by decide +kernel
theorem dX10_isSide_3 : decode cX10_isSide 3 = .ok (.lconst 1, 1) := by decide +kernel
theorem dX10_isSide_4 : decode cX10_isSide 4 = .ok (.invokestatic 72, 3) := by decide +kernel
theorem dX10_isSide_7 : decode cX10_isSide 7 = .ok (.ireturn, 1) := by decide +kernel
theorem dX10_isPuller_0 : decode cX10_isPuller 0 = .ok (.iload_n 1, 1) := by decide +kernel
theorem dX10_isPuller_1 : decode cX10_isPuller 1 = .ok (.invokestatic 217, 3) := by decide +kernel
theorem dX10_isPuller_4 : decode cX10_isPuller 4 = .ok (.ifCond .eq 27, 3) := by decide +kernel
theorem dX10_isPuller_7 : decode cX10_isPuller 7 = .ok (.iload_n 2, 1) := by decide +kernel
theorem dX10_isPuller_8 : decode cX10_isPuller 8 = .ok (.i2l, 1) := by decide +kernel
theorem dX10_isPuller_9 : decode cX10_isPuller 9 = .ok (.lconst 0, 1) := by decide +kernel
theorem dX10_isPuller_10 : decode cX10_isPuller 10 = .ok (.aload_n 0, 1) := by decide +kernel
theorem dX10_isPuller_11 : decode cX10_isPuller 11 = .ok (.getfield 19, 3) := by decide +kernel
theorem dX10_isPuller_14 : decode cX10_isPuller 14 = .ok (.iconst 0, 1) := by decide +kernel
theorem dX10_isPuller_15 : decode cX10_isPuller 15 = .ok (.iload_n 1, 1) := by decide +kernel
theorem dX10_isPuller_16 : decode cX10_isPuller 16 = .ok (.iadd, 1) := by decide +kernel
theorem dX10_isPuller_17 : decode cX10_isPuller 17 = .ok (.iaload, 1) := by decide +kernel
theorem dX10_isPuller_18 : decode cX10_isPuller 18 = .ok (.iconst 1, 1) := by decide +kernel
theorem dX10_isPuller_19 : decode cX10_isPuller 19 = .ok (.isub, 1) := by decide +kernel
theorem dX10_isPuller_20 : decode cX10_isPuller 20 = .ok (.i2l, 1) := by decide +kernel
theorem dX10_isPuller_21 : decode cX10_isPuller 21 = .ok (.invokestatic 72, 3) := by decide +kernel
theorem dX10_isPuller_24 : decode cX10_isPuller 24 = .ok (.ifCond .eq 7, 3) := by decide +kernel
theorem dX10_isPuller_27 : decode cX10_isPuller 27 = .ok (.iconst 1, 1) := by decide +kernel
theorem dX10_isPuller_28 : decode cX10_isPuller 28 = .ok (.goto 4, 3) := by decide +kernel
theorem dX10_isPuller_31 : decode cX10_isPuller 31 = .ok (.iconst 0, 1) := by decide +kernel
theorem dX10_isPuller_32 : decode cX10_isPuller 32 = .ok (.ireturn, 1) := by decide +kernel
theorem dX10_of_0 : decode cX10_of 0 = .ok (.aload_n 0, 1) := by decide +kernel
theorem dX10_of_1 : decode cX10_of 1 = .ok (.getfield 19, 3) := by decide +kernel
theorem dX10_of_4 : decode cX10_of 4 = .ok (.bipush 8, 2) := by decide +kernel
theorem dX10_of_6 : decode cX10_of 6 = .ok (.bipush 40, 2) := by decide +kernel
theorem dX10_of_8 : decode cX10_of 8 = .ok (.iload_n 1, 1) := by decide +kernel
theorem dX10_of_9 : decode cX10_of 9 = .ok (.imul, 1) := by decide +kernel
theorem dX10_of_10 : decode cX10_of 10 = .ok (.iadd, 1) := by decide +kernel
theorem dX10_of_11 : decode cX10_of 11 = .ok (.iconst 5, 1) := by decide +kernel
theorem dX10_of_12 : decode cX10_of 12 = .ok (.iload_n 2, 1) := by decide +kernel
theorem dX10_of_13 : decode cX10_of 13 = .ok (.imul, 1) := by decide +kernel
theorem dX10_of_14 : decode cX10_of 14 = .ok (.iadd, 1) := by decide +kernel
theorem dX10_of_15 : decode cX10_of 15 = .ok (.iload_n 3, 1) := by decide +kernel
theorem dX10_of_16 : decode cX10_of 16 = .ok (.iadd, 1) := by decide +kernel
theorem dX10_of_17 : decode cX10_of 17 = .ok (.iaload, 1) := by decide +kernel
theorem dX10_of_18 : decode cX10_of 18 = .ok (.ireturn, 1) := by decide +kernel
theorem dX10_puller_0 : decode cX10_puller 0 = .ok (.aload_n 0, 1) := by decide +kernel
theorem dX10_puller_1 : decode cX10_puller 1 = .ok (.iconst 0, 1) := by decide +kernel
theorem dX10_puller_2 : decode cX10_puller 2 = .ok (.putfield 62, 3) := by decide +kernel
theorem dX10_puller_5 : decode cX10_puller 5 = .ok (.aload_n 0, 1) := by decide +kernel
theorem dX10_puller_6 : decode cX10_puller 6 = .ok (.iload_n 1, 1) := by decide +kernel
theorem dX10_puller_7 : decode cX10_puller 7 = .ok (.iload_n 2, 1) := by decide +kernel
theorem dX10_puller_8 : decode cX10_puller 8 = .ok (.invokevirtual 220, 3) := by decide +kernel
theorem dX10_puller_11 : decode cX10_puller 11 = .ok (.ifCond .eq 25, 3) := by decide +kernel
theorem dX10_puller_14 : decode cX10_puller 14 = .ok (.iload_n 3, 1) := by decide +kernel
theorem dX10_puller_15 : decode cX10_puller 15 = .ok (.i2l, 1) := by decide +kernel
theorem dX10_puller_16 : decode cX10_puller 16 = .ok (.lconst 0, 1) := by decide +kernel
theorem dX10_puller_17 : decode cX10_puller 17 = .ok (.ldc2_w 224, 3) := by decide +kernel
theorem dX10_puller_20 : decode cX10_puller 20 = .ok (.invokestatic 72, 3) := by decide +kernel
theorem dX10_puller_23 : decode cX10_puller 23 = .ok (.ifCond .eq 13, 3) := by decide +kernel
theorem dX10_puller_26 : decode cX10_puller 26 = .ok (.aload_n 0, 1) := by decide +kernel
theorem dX10_puller_27 : decode cX10_puller 27 = .ok (.iload_n 1, 1) := by decide +kernel
theorem dX10_puller_28 : decode cX10_puller 28 = .ok (.iload_n 2, 1) := by decide +kernel
theorem dX10_puller_29 : decode cX10_puller 29 = .ok (.iload_n 3, 1) := by decide +kernel
theorem dX10_puller_30 : decode cX10_puller 30 = .ok (.invokevirtual 226, 3) := by decide +kernel
theorem dX10_puller_33 : decode cX10_puller 33 = .ok (.goto 5, 3) := by decide +kernel
theorem dX10_puller_36 : decode cX10_puller 36 = .ok (.ldc 82, 2) := by decide +kernel
theorem dX10_puller_38 : decode cX10_puller 38 = .ok (.ireturn, 1) := by decide +kernel
theorem dX10_start_0 : decode cX10_start 0 = .ok (.iconst 2, 1) := by decide +kernel
theorem dX10_start_1 : decode cX10_start 1 = .ok (.istore_n 2, 1) := by decide +kernel
theorem dX10_start_2 : decode cX10_start 2 = .ok (.iload_n 2, 1) := by decide +kernel
theorem dX10_start_3 : decode cX10_start 3 = .ok (.sipush 370, 3) := by decide +kernel
theorem dX10_start_6 : decode cX10_start 6 = .ok (.if_icmp .ge 16, 3) := by decide +kernel
theorem dX10_start_9 : decode cX10_start 9 = .ok (.aload_n 0, 1) := by decide +kernel
theorem dX10_start_10 : decode cX10_start 10 = .ok (.getfield 25, 3) := by decide +kernel
theorem dX10_start_13 : decode cX10_start 13 = .ok (.iload_n 2, 1) := by decide +kernel
theorem dX10_start_14 : decode cX10_start 14 = .ok (.iconst 0, 1) := by decide +kernel
theorem dX10_start_15 : decode cX10_start 15 = .ok (.iastore, 1) := by decide +kernel
theorem dX10_start_16 : decode cX10_start 16 = .ok (.iinc 2 1, 3) := by decide +kernel
theorem dX10_start_19 : decode cX10_start 19 = .ok (.goto (-17), 3) := by decide +kernel
theorem dX10_start_22 : decode cX10_start 22 = .ok (.aload_n 0, 1) := by decide +kernel
theorem dX10_start_23 : decode cX10_start 23 = .ok (.getfield 25, 3) := by decide +kernel
theorem dX10_start_26 : decode cX10_start 26 = .ok (.iconst 2, 1) := by decide +kernel
theorem dX10_start_27 : decode cX10_start 27 = .ok (.iconst 1, 1) := by decide +kernel
theorem dX10_start_28 : decode cX10_start 28 = .ok (.iastore, 1) := by decide +kernel
theorem dX10_start_29 : decode cX10_start 29 = .ok (.aload_n 0, 1) := by decide +kernel
theorem dX10_start_30 : decode cX10_start 30 = .ok (.getfield 25, 3) := by decide +kernel
theorem dX10_start_33 : decode cX10_start 33 = .ok (.iconst 3, 1) := by decide +kernel
theorem dX10_start_34 : decode cX10_start 34 = .ok (.iload_n 1, 1) := by decide +kernel
theorem dX10_start_35 : decode cX10_start 35 = .ok (.iastore, 1) := by decide +kernel
theorem dX10_start_36 : decode cX10_start 36 = .ok (.aload_n 0, 1) := by decide +kernel
theorem dX10_start_37 : decode cX10_start 37 = .ok (.getfield 25, 3) := by decide +kernel
theorem dX10_start_40 : decode cX10_start 40 = .ok (.bipush 6, 2) := by decide +kernel
theorem dX10_start_42 : decode cX10_start 42 = .ok (.iconst (-1), 1) := by decide +kernel
theorem dX10_start_43 : decode cX10_start 43 = .ok (.iastore, 1) := by decide +kernel
theorem dX10_start_44 : decode cX10_start 44 = .ok (.aload_n 0, 1) := by decide +kernel
theorem dX10_start_45 : decode cX10_start 45 = .ok (.getfield 25, 3) := by decide +kernel
theorem dX10_start_48 : decode cX10_start 48 = .ok (.bipush 7, 2) := by decide +kernel
theorem dX10_start_50 : decode cX10_start 50 = .ok (.iconst (-1), 1) := by decide +kernel
theorem dX10_start_51 : decode cX10_start 51 = .ok (.iastore, 1) := by decide +kernel
theorem dX10_start_52 : decode cX10_start 52 = .ok (.iconst 0, 1) := by decide +kernel
theorem dX10_start_53 : decode cX10_start 53 = .ok (.istore_n 2, 1) := by decide +kernel
theorem dX10_start_54 : decode cX10_start 54 = .ok (.iload_n 2, 1) := by decide +kernel
theorem dX10_start_55 : decode cX10_start 55 = .ok (.bipush 16, 2) := by decide +kernel
theorem dX10_start_57 : decode cX10_start 57 = .ok (.if_icmp .ge 53, 3) := by decide +kernel
theorem dX10_start_60 : decode cX10_start 60 = .ok (.aload_n 0, 1) := by decide +kernel
theorem dX10_start_61 : decode cX10_start 61 = .ok (.getfield 25, 3) := by decide +kernel
theorem dX10_start_64 : decode cX10_start 64 = .ok (.bipush 10, 2) := by decide +kernel
theorem dX10_start_66 : decode cX10_start 66 = .ok (.iload_n 2, 1) := by decide +kernel
theorem dX10_start_67 : decode cX10_start 67 = .ok (.iadd, 1) := by decide +kernel
theorem dX10_start_68 : decode cX10_start 68 = .ok (.aload_n 0, 1) := by decide +kernel
theorem dX10_start_69 : decode cX10_start 69 = .ok (.iload_n 2, 1) := by decide +kernel
theorem dX10_start_70 : decode cX10_start 70 = .ok (.bipush 8, 2) := by decide +kernel
theorem dX10_start_72 : decode cX10_start 72 = .ok (.idiv, 1) := by decide +kernel
theorem dX10_start_73 : decode cX10_start 73 = .ok (.iload_n 2, 1) := by decide +kernel
theorem dX10_start_74 : decode cX10_start 74 = .ok (.bipush 8, 2) := by decide +kernel
theorem dX10_start_76 : decode cX10_start 76 = .ok (.irem, 1) := by decide +kernel
theorem dX10_start_77 : decode cX10_start 77 = .ok (.iconst 3, 1) := by decide +kernel
theorem dX10_start_78 : decode cX10_start 78 = .ok (.invokevirtual 226, 3) := by decide +kernel
theorem dX10_start_81 : decode cX10_start 81 = .ok (.iastore, 1) := by decide +kernel
theorem dX10_start_82 : decode cX10_start 82 = .ok (.aload_n 0, 1) := by decide +kernel
theorem dX10_start_83 : decode cX10_start 83 = .ok (.getfield 25, 3) := by decide +kernel
theorem dX10_start_86 : decode cX10_start 86 = .ok (.bipush 26, 2) := by decide +kernel
theorem dX10_start_88 : decode cX10_start 88 = .ok (.iload_n 2, 1) := by decide +kernel
theorem dX10_start_89 : decode cX10_start 89 = .ok (.iadd, 1) := by decide +kernel
theorem dX10_start_90 : decode cX10_start 90 = .ok (.ldc 98, 2) := by decide +kernel
theorem dX10_start_92 : decode cX10_start 92 = .ok (.iastore, 1) := by decide +kernel
theorem dX10_start_93 : decode cX10_start 93 = .ok (.aload_n 0, 1) := by decide +kernel
theorem dX10_start_94 : decode cX10_start 94 = .ok (.getfield 25, 3) := by decide +kernel
theorem dX10_start_97 : decode cX10_start 97 = .ok (.bipush 42, 2) := by decide +kernel
theorem dX10_start_99 : decode cX10_start 99 = .ok (.iload_n 2, 1) := by decide +kernel
theorem dX10_start_100 : decode cX10_start 100 = .ok (.iadd, 1) := by decide +kernel
theorem dX10_start_101 : decode cX10_start 101 = .ok (.ldc 98, 2) := by decide +kernel
theorem dX10_start_103 : decode cX10_start 103 = .ok (.iastore, 1) := by decide +kernel
theorem dX10_start_104 : decode cX10_start 104 = .ok (.iinc 2 1, 3) := by decide +kernel
theorem dX10_start_107 : decode cX10_start 107 = .ok (.goto (-53), 3) := by decide +kernel
theorem dX10_start_110 : decode cX10_start 110 = .ok (.return_, 1) := by decide +kernel
theorem dX10_begin_0 : decode cX10_begin 0 = .ok (.aload_n 0, 1) := by decide +kernel
theorem dX10_begin_1 : decode cX10_begin 1 = .ok (.iconst 0, 1) := by decide +kernel
theorem dX10_begin_2 : decode cX10_begin 2 = .ok (.putfield 62, 3) := by decide +kernel
theorem dX10_begin_5 : decode cX10_begin 5 = .ok (.iload_n 1, 1) := by decide +kernel
theorem dX10_begin_6 : decode cX10_begin 6 = .ok (.i2l, 1) := by decide +kernel
theorem dX10_begin_7 : decode cX10_begin 7 = .ok (.lconst 0, 1) := by decide +kernel
theorem dX10_begin_8 : decode cX10_begin 8 = .ok (.lconst 1, 1) := by decide +kernel
theorem dX10_begin_9 : decode cX10_begin 9 = .ok (.invokestatic 72, 3) := by decide +kernel
theorem dX10_begin_12 : decode cX10_begin 12 = .ok (.ifCond .ne 6, 3) := by decide +kernel
theorem dX10_begin_15 : decode cX10_begin 15 = .ok (.ldc 82, 2) := by decide +kernel
theorem dX10_begin_17 : decode cX10_begin 17 = .ok (.ireturn, 1) := by decide +kernel
theorem dX10_begin_18 : decode cX10_begin 18 = .ok (.aload_n 0, 1) := by decide +kernel
theorem dX10_begin_19 : decode cX10_begin 19 = .ok (.getfield 213, 3) := by decide +kernel
theorem dX10_begin_22 : decode cX10_begin 22 = .ok (.ifCond .ne 6, 3) := by decide +kernel
theorem dX10_begin_25 : decode cX10_begin 25 = .ok (.ldc 230, 2) := by decide +kernel
theorem dX10_begin_27 : decode cX10_begin 27 = .ok (.ireturn, 1) := by decide +kernel
theorem dX10_begin_28 : decode cX10_begin 28 = .ok (.aload_n 0, 1) := by decide +kernel
theorem dX10_begin_29 : decode cX10_begin 29 = .ok (.iload_n 1, 1) := by decide +kernel
theorem dX10_begin_30 : decode cX10_begin 30 = .ok (.invokevirtual 231, 3) := by decide +kernel
theorem dX10_begin_33 : decode cX10_begin 33 = .ok (.iconst 1, 1) := by decide +kernel
theorem dX10_begin_34 : decode cX10_begin 34 = .ok (.ireturn, 1) := by decide +kernel
theorem dX10_breathOf_0 : decode cX10_breathOf 0 = .ok (.iconst 0, 1) := by decide +kernel
theorem dX10_breathOf_1 : decode cX10_breathOf 1 = .ok (.istore_n 2, 1) := by decide +kernel
theorem dX10_breathOf_2 : decode cX10_breathOf 2 = .ok (.iconst 0, 1) := by decide +kernel
theorem dX10_breathOf_3 : decode cX10_breathOf 3 = .ok (.istore_n 3, 1) := by decide +kernel
theorem dX10_breathOf_4 : decode cX10_breathOf 4 = .ok (.iload_n 3, 1) := by decide +kernel
theorem dX10_breathOf_5 : decode cX10_breathOf 5 = .ok (.aload_n 0, 1) := by decide +kernel
theorem dX10_breathOf_6 : decode cX10_breathOf 6 = .ok (.getfield 19, 3) := by decide +kernel
theorem dX10_breathOf_9 : decode cX10_breathOf 9 = .ok (.iconst 0, 1) := by decide +kernel
theorem dX10_breathOf_10 : decode cX10_breathOf 10 = .ok (.iload_n 1, 1) := by decide +kernel
theorem dX10_breathOf_11 : decode cX10_breathOf 11 = .ok (.iadd, 1) := by decide +kernel
theorem dX10_breathOf_12 : decode cX10_breathOf 12 = .ok (.iaload, 1) := by decide +kernel
theorem dX10_breathOf_13 : decode cX10_breathOf 13 = .ok (.if_icmp .ge 26, 3) := by decide +kernel
theorem dX10_breathOf_16 : decode cX10_breathOf 16 = .ok (.iload_n 2, 1) := by decide +kernel
theorem dX10_breathOf_17 : decode cX10_breathOf 17 = .ok (.aload_n 0, 1) := by decide +kernel
theorem dX10_breathOf_18 : decode cX10_breathOf 18 = .ok (.getfield 25, 3) := by decide +kernel
theorem dX10_breathOf_21 : decode cX10_breathOf 21 = .ok (.bipush 10, 2) := by decide +kernel
theorem dX10_breathOf_23 : decode cX10_breathOf 23 = .ok (.bipush 8, 2) := by decide +kernel
theorem dX10_breathOf_25 : decode cX10_breathOf 25 = .ok (.iload_n 1, 1) := by decide +kernel
theorem dX10_breathOf_26 : decode cX10_breathOf 26 = .ok (.imul, 1) := by decide +kernel
theorem dX10_breathOf_27 : decode cX10_breathOf 27 = .ok (.iadd, 1) := by decide +kernel
theorem dX10_breathOf_28 : decode cX10_breathOf 28 = .ok (.iload_n 3, 1) := by decide +kernel
theorem dX10_breathOf_29 : decode cX10_breathOf 29 = .ok (.iadd, 1) := by decide +kernel
theorem dX10_breathOf_30 : decode cX10_breathOf 30 = .ok (.iaload, 1) := by decide +kernel
theorem dX10_breathOf_31 : decode cX10_breathOf 31 = .ok (.iadd, 1) := by decide +kernel
theorem dX10_breathOf_32 : decode cX10_breathOf 32 = .ok (.istore_n 2, 1) := by decide +kernel
theorem dX10_breathOf_33 : decode cX10_breathOf 33 = .ok (.iinc 3 1, 3) := by decide +kernel
theorem dX10_breathOf_36 : decode cX10_breathOf 36 = .ok (.goto (-32), 3) := by decide +kernel
theorem dX10_breathOf_39 : decode cX10_breathOf 39 = .ok (.iload_n 2, 1) := by decide +kernel
theorem dX10_breathOf_40 : decode cX10_breathOf 40 = .ok (.aload_n 0, 1) := by decide +kernel
theorem dX10_breathOf_41 : decode cX10_breathOf 41 = .ok (.getfield 19, 3) := by decide +kernel
theorem dX10_breathOf_44 : decode cX10_breathOf 44 = .ok (.iconst 0, 1) := by decide +kernel
theorem dX10_breathOf_45 : decode cX10_breathOf 45 = .ok (.iload_n 1, 1) := by decide +kernel
theorem dX10_breathOf_46 : decode cX10_breathOf 46 = .ok (.iadd, 1) := by decide +kernel
theorem dX10_breathOf_47 : decode cX10_breathOf 47 = .ok (.iaload, 1) := by decide +kernel
theorem dX10_breathOf_48 : decode cX10_breathOf 48 = .ok (.idiv, 1) := by decide +kernel
theorem dX10_breathOf_49 : decode cX10_breathOf 49 = .ok (.ireturn, 1) := by decide +kernel
theorem dX10_ruled_0 : decode cX10_ruled 0 = .ok (.iconst 0, 1) := by decide +kernel
theorem dX10_ruled_1 : decode cX10_ruled 1 = .ok (.istore_n 2, 1) := by decide +kernel
theorem dX10_ruled_2 : decode cX10_ruled 2 = .ok (.iload_n 2, 1) := by decide +kernel
theorem dX10_ruled_3 : decode cX10_ruled 3 = .ok (.aload_n 0, 1) := by decide +kernel
theorem dX10_ruled_4 : decode cX10_ruled 4 = .ok (.getfield 19, 3) := by decide +kernel
theorem dX10_ruled_7 : decode cX10_ruled 7 = .ok (.iconst 2, 1) := by decide +kernel
theorem dX10_ruled_8 : decode cX10_ruled 8 = .ok (.iload_n 1, 1) := by decide +kernel
theorem dX10_ruled_9 : decode cX10_ruled 9 = .ok (.iadd, 1) := by decide +kernel
theorem dX10_ruled_10 : decode cX10_ruled 10 = .ok (.iaload, 1) := by decide +kernel
theorem dX10_ruled_11 : decode cX10_ruled 11 = .ok (.if_icmp .ge 144, 3) := by decide +kernel
theorem dX10_ruled_14 : decode cX10_ruled 14 = .ok (.bipush 88, 2) := by decide +kernel
theorem dX10_ruled_16 : decode cX10_ruled 16 = .ok (.bipush 24, 2) := by decide +kernel
theorem dX10_ruled_18 : decode cX10_ruled 18 = .ok (.iload_n 1, 1) := by decide +kernel
theorem dX10_ruled_19 : decode cX10_ruled 19 = .ok (.imul, 1) := by decide +kernel
theorem dX10_ruled_20 : decode cX10_ruled 20 = .ok (.iadd, 1) := by decide +kernel
theorem dX10_ruled_21 : decode cX10_ruled 21 = .ok (.iconst 4, 1) := by decide +kernel
theorem dX10_ruled_22 : decode cX10_ruled 22 = .ok (.iload_n 2, 1) := by decide +kernel
theorem dX10_ruled_23 : decode cX10_ruled 23 = .ok (.imul, 1) := by decide +kernel
theorem dX10_ruled_24 : decode cX10_ruled 24 = .ok (.iadd, 1) := by decide +kernel
theorem dX10_ruled_25 : decode cX10_ruled 25 = .ok (.istore_n 3, 1) := by decide +kernel
theorem dX10_ruled_26 : decode cX10_ruled 26 = .ok (.aload_n 0, 1) := by decide +kernel
theorem dX10_ruled_27 : decode cX10_ruled 27 = .ok (.getfield 19, 3) := by decide +kernel
theorem dX10_ruled_30 : decode cX10_ruled 30 = .ok (.iload_n 3, 1) := by decide +kernel
theorem dX10_ruled_31 : decode cX10_ruled 31 = .ok (.iaload, 1) := by decide +kernel
theorem dX10_ruled_32 : decode cX10_ruled 32 = .ok (.istore 4, 2) := by decide +kernel
theorem dX10_ruled_34 : decode cX10_ruled 34 = .ok (.iload 4, 2) := by decide +kernel
theorem dX10_ruled_36 : decode cX10_ruled 36 = .ok (.ifCond .ne 11, 3) := by decide +kernel
theorem dX10_ruled_39 : decode cX10_ruled 39 = .ok (.aload_n 0, 1) := by decide +kernel
theorem dX10_ruled_40 : decode cX10_ruled 40 = .ok (.iload_n 1, 1) := by decide +kernel
theorem dX10_ruled_41 : decode cX10_ruled 41 = .ok (.invokevirtual 234, 3) := by decide +kernel
theorem dX10_ruled_44 : decode cX10_ruled 44 = .ok (.goto 54, 3) := by decide +kernel
theorem dX10_ruled_47 : decode cX10_ruled 47 = .ok (.iload 4, 2) := by decide +kernel
theorem dX10_ruled_49 : decode cX10_ruled 49 = .ok (.iconst 1, 1) := by decide +kernel
theorem dX10_ruled_50 : decode cX10_ruled 50 = .ok (.if_icmp .ne 13, 3) := by decide +kernel
theorem dX10_ruled_53 : decode cX10_ruled 53 = .ok (.aload_n 0, 1) := by decide +kernel
theorem dX10_ruled_54 : decode cX10_ruled 54 = .ok (.iconst 1, 1) := by decide +kernel
theorem dX10_ruled_55 : decode cX10_ruled 55 = .ok (.iload_n 1, 1) := by decide +kernel
theorem dX10_ruled_56 : decode cX10_ruled 56 = .ok (.isub, 1) := by decide +kernel
theorem dX10_ruled_57 : decode cX10_ruled 57 = .ok (.invokevirtual 234, 3) := by decide +kernel
theorem dX10_ruled_60 : decode cX10_ruled 60 = .ok (.goto 38, 3) := by decide +kernel
theorem dX10_ruled_63 : decode cX10_ruled 63 = .ok (.iload 4, 2) := by decide +kernel
theorem dX10_ruled_65 : decode cX10_ruled 65 = .ok (.iconst 2, 1) := by decide +kernel
theorem dX10_ruled_66 : decode cX10_ruled 66 = .ok (.if_icmp .ne 26, 3) := by decide +kernel
theorem dX10_ruled_69 : decode cX10_ruled 69 = .ok (.iload_n 1, 1) := by decide +kernel
theorem dX10_ruled_70 : decode cX10_ruled 70 = .ok (.ifCond .ne 12, 3) := by decide +kernel
theorem dX10_ruled_73 : decode cX10_ruled 73 = .ok (.aload_n 0, 1) := by decide +kernel
theorem dX10_ruled_74 : decode cX10_ruled 74 = .ok (.getfield 25, 3) := by decide +kernel
theorem dX10_ruled_77 : decode cX10_ruled 77 = .ok (.iconst 4, 1) := by decide +kernel
theorem dX10_ruled_78 : decode cX10_ruled 78 = .ok (.iaload, 1) := by decide +kernel
theorem dX10_ruled_79 : decode cX10_ruled 79 = .ok (.goto 19, 3) := by decide +kernel
theorem dX10_ruled_82 : decode cX10_ruled 82 = .ok (.aload_n 0, 1) := by decide +kernel
theorem dX10_ruled_83 : decode cX10_ruled 83 = .ok (.getfield 25, 3) := by decide +kernel
theorem dX10_ruled_86 : decode cX10_ruled 86 = .ok (.iconst 4, 1) := by decide +kernel
theorem dX10_ruled_87 : decode cX10_ruled 87 = .ok (.iaload, 1) := by decide +kernel
theorem dX10_ruled_88 : decode cX10_ruled 88 = .ok (.ineg, 1) := by decide +kernel
theorem dX10_ruled_89 : decode cX10_ruled 89 = .ok (.goto 9, 3) := by decide +kernel
theorem dX10_ruled_92 : decode cX10_ruled 92 = .ok (.aload_n 0, 1) := by decide +kernel
theorem dX10_ruled_93 : decode cX10_ruled 93 = .ok (.getfield 25, 3) := by decide +kernel
theorem dX10_ruled_96 : decode cX10_ruled 96 = .ok (.iconst 5, 1) := by decide +kernel
theorem dX10_ruled_97 : decode cX10_ruled 97 = .ok (.iaload, 1) := by decide +kernel
theorem dX10_ruled_98 : decode cX10_ruled 98 = .ok (.istore 5, 2) := by decide +kernel
theorem dX10_ruled_100 : decode cX10_ruled 100 = .ok (.aload_n 0, 1) := by decide +kernel
theorem dX10_ruled_101 : decode cX10_ruled 101 = .ok (.getfield 19, 3) := by decide +kernel
theorem dX10_ruled_104 : decode cX10_ruled 104 = .ok (.iload_n 3, 1) := by decide +kernel
theorem dX10_ruled_105 : decode cX10_ruled 105 = .ok (.iconst 1, 1) := by decide +kernel
theorem dX10_ruled_106 : decode cX10_ruled 106 = .ok (.iadd, 1) := by decide +kernel
theorem dX10_ruled_107 : decode cX10_ruled 107 = .ok (.iaload, 1) := by decide +kernel
theorem dX10_ruled_108 : decode cX10_ruled 108 = .ok (.ifCond .ne 19, 3) := by decide +kernel
theorem dX10_ruled_111 : decode cX10_ruled 111 = .ok (.iload 5, 2) := by decide +kernel
theorem dX10_ruled_113 : decode cX10_ruled 113 = .ok (.aload_n 0, 1) := by decide +kernel
theorem dX10_ruled_114 : decode cX10_ruled 114 = .ok (.getfield 19, 3) := by decide +kernel
theorem dX10_ruled_117 : decode cX10_ruled 117 = .ok (.iload_n 3, 1) := by decide +kernel
theorem dX10_ruled_118 : decode cX10_ruled 118 = .ok (.iconst 2, 1) := by decide +kernel
theorem dX10_ruled_119 : decode cX10_ruled 119 = .ok (.iadd, 1) := by decide +kernel
theorem dX10_ruled_120 : decode cX10_ruled 120 = .ok (.iaload, 1) := by decide +kernel
theorem dX10_ruled_121 : decode cX10_ruled 121 = .ok (.if_icmp .ge 28, 3) := by decide +kernel
theorem dX10_ruled_124 : decode cX10_ruled 124 = .ok (.goto 16, 3) := by decide +kernel
theorem dX10_ruled_127 : decode cX10_ruled 127 = .ok (.iload 5, 2) := by decide +kernel
theorem dX10_ruled_129 : decode cX10_ruled 129 = .ok (.aload_n 0, 1) := by decide +kernel
theorem dX10_ruled_130 : decode cX10_ruled 130 = .ok (.getfield 19, 3) := by decide +kernel
theorem dX10_ruled_133 : decode cX10_ruled 133 = .ok (.iload_n 3, 1) := by decide +kernel
theorem dX10_ruled_134 : decode cX10_ruled 134 = .ok (.iconst 2, 1) := by decide +kernel
theorem dX10_ruled_135 : decode cX10_ruled 135 = .ok (.iadd, 1) := by decide +kernel
theorem dX10_ruled_136 : decode cX10_ruled 136 = .ok (.iaload, 1) := by decide +kernel
theorem dX10_ruled_137 : decode cX10_ruled 137 = .ok (.if_icmp .le 12, 3) := by decide +kernel
theorem dX10_ruled_140 : decode cX10_ruled 140 = .ok (.aload_n 0, 1) := by decide +kernel
theorem dX10_ruled_141 : decode cX10_ruled 141 = .ok (.getfield 19, 3) := by decide +kernel
theorem dX10_ruled_144 : decode cX10_ruled 144 = .ok (.iload_n 3, 1) := by decide +kernel
theorem dX10_ruled_145 : decode cX10_ruled 145 = .ok (.iconst 3, 1) := by decide +kernel
theorem dX10_ruled_146 : decode cX10_ruled 146 = .ok (.iadd, 1) := by decide +kernel
theorem dX10_ruled_147 : decode cX10_ruled 147 = .ok (.iaload, 1) := by decide +kernel
theorem dX10_ruled_148 : decode cX10_ruled 148 = .ok (.ireturn, 1) := by decide +kernel
theorem dX10_ruled_149 : decode cX10_ruled 149 = .ok (.iinc 2 1, 3) := by decide +kernel
theorem dX10_ruled_152 : decode cX10_ruled 152 = .ok (.goto (-150), 3) := by decide +kernel
theorem dX10_ruled_155 : decode cX10_ruled 155 = .ok (.iconst 0, 1) := by decide +kernel
theorem dX10_ruled_156 : decode cX10_ruled 156 = .ok (.ireturn, 1) := by decide +kernel
theorem dX10_takes_0 : decode cX10_takes 0 = .ok (.iload_n 0, 1) := by decide +kernel
theorem dX10_takes_1 : decode cX10_takes 1 = .ok (.iconst 1, 1) := by decide +kernel
theorem dX10_takes_2 : decode cX10_takes 2 = .ok (.if_icmp .ne 7, 3) := by decide +kernel
theorem dX10_takes_5 : decode cX10_takes 5 = .ok (.iconst 3, 1) := by decide +kernel
theorem dX10_takes_6 : decode cX10_takes 6 = .ok (.goto 22, 3) := by decide +kernel
theorem dX10_takes_9 : decode cX10_takes 9 = .ok (.iload_n 0, 1) := by decide +kernel
theorem dX10_takes_10 : decode cX10_takes 10 = .ok (.iconst 2, 1) := by decide +kernel
theorem dX10_takes_11 : decode cX10_takes 11 = .ok (.if_icmp .ne 7, 3) := by decide +kernel
theorem dX10_takes_14 : decode cX10_takes 14 = .ok (.iconst 2, 1) := by decide +kernel
theorem dX10_takes_15 : decode cX10_takes 15 = .ok (.goto 13, 3) := by decide +kernel
theorem dX10_takes_18 : decode cX10_takes 18 = .ok (.iload_n 0, 1) := by decide +kernel
theorem dX10_takes_19 : decode cX10_takes 19 = .ok (.ifCond .ne 7, 3) := by decide +kernel
theorem dX10_takes_22 : decode cX10_takes 22 = .ok (.iconst 1, 1) := by decide +kernel
theorem dX10_takes_23 : decode cX10_takes 23 = .ok (.goto 5, 3) := by decide +kernel
theorem dX10_takes_26 : decode cX10_takes 26 = .ok (.bipush (-2), 2) := by decide +kernel
theorem dX10_takes_28 : decode cX10_takes 28 = .ok (.ireturn, 1) := by decide +kernel
theorem dX10_does_0 : decode cX10_does 0 = .ok (.bipush 8, 2) := by decide +kernel
theorem dX10_does_2 : decode cX10_does 2 = .ok (.iload_n 1, 1) := by decide +kernel
theorem dX10_does_3 : decode cX10_does 3 = .ok (.imul, 1) := by decide +kernel
theorem dX10_does_4 : decode cX10_does 4 = .ok (.iload_n 2, 1) := by decide +kernel
theorem dX10_does_5 : decode cX10_does 5 = .ok (.iadd, 1) := by decide +kernel
theorem dX10_does_6 : decode cX10_does 6 = .ok (.istore 5, 2) := by decide +kernel
theorem dX10_does_8 : decode cX10_does 8 = .ok (.aload_n 0, 1) := by decide +kernel
theorem dX10_does_9 : decode cX10_does 9 = .ok (.iload_n 1, 1) := by decide +kernel
theorem dX10_does_10 : decode cX10_does 10 = .ok (.iload_n 2, 1) := by decide +kernel
theorem dX10_does_11 : decode cX10_does 11 = .ok (.iconst 1, 1) := by decide +kernel
theorem dX10_does_12 : decode cX10_does 12 = .ok (.invokevirtual 226, 3) := by decide +kernel
theorem dX10_does_15 : decode cX10_does 15 = .ok (.istore 6, 2) := by decide +kernel
theorem dX10_does_17 : decode cX10_does 17 = .ok (.aload_n 0, 1) := by decide +kernel
theorem dX10_does_18 : decode cX10_does 18 = .ok (.getfield 25, 3) := by decide +kernel
theorem dX10_does_21 : decode cX10_does 21 = .ok (.bipush 10, 2) := by decide +kernel
theorem dX10_does_23 : decode cX10_does 23 = .ok (.iload 5, 2) := by decide +kernel
theorem dX10_does_25 : decode cX10_does 25 = .ok (.iadd, 1) := by decide +kernel
theorem dX10_does_26 : decode cX10_does 26 = .ok (.iaload, 1) := by decide +kernel
theorem dX10_does_27 : decode cX10_does 27 = .ok (.iload_n 3, 1) := by decide +kernel
theorem dX10_does_28 : decode cX10_does 28 = .ok (.invokestatic 237, 3) := by decide +kernel
theorem dX10_does_31 : decode cX10_does 31 = .ok (.isub, 1) := by decide +kernel
theorem dX10_does_32 : decode cX10_does 32 = .ok (.istore 7, 2) := by decide +kernel
theorem dX10_does_34 : decode cX10_does 34 = .ok (.iconst 0, 1) := by decide +kernel
theorem dX10_does_35 : decode cX10_does 35 = .ok (.istore 8, 2) := by decide +kernel
theorem dX10_does_37 : decode cX10_does 37 = .ok (.iload 7, 2) := by decide +kernel
theorem dX10_does_39 : decode cX10_does 39 = .ok (.ifCond .ge 69, 3) := by decide +kernel
theorem dX10_does_42 : decode cX10_does 42 = .ok (.iload 6, 2) := by decide +kernel
theorem dX10_does_44 : decode cX10_does 44 = .ok (.iconst 4, 1) := by decide +kernel
theorem dX10_does_45 : decode cX10_does 45 = .ok (.idiv, 1) := by decide +kernel
theorem dX10_does_46 : decode cX10_does 46 = .ok (.istore 8, 2) := by decide +kernel
theorem dX10_does_48 : decode cX10_does 48 = .ok (.aload_n 0, 1) := by decide +kernel
theorem dX10_does_49 : decode cX10_does 49 = .ok (.getfield 25, 3) := by decide +kernel
theorem dX10_does_52 : decode cX10_does 52 = .ok (.bipush 10, 2) := by decide +kernel
theorem dX10_does_54 : decode cX10_does 54 = .ok (.iload 5, 2) := by decide +kernel
theorem dX10_does_56 : decode cX10_does 56 = .ok (.iadd, 1) := by decide +kernel
theorem dX10_does_57 : decode cX10_does 57 = .ok (.iaload, 1) := by decide +kernel
theorem dX10_does_58 : decode cX10_does 58 = .ok (.iconst 1, 1) := by decide +kernel
theorem dX10_does_59 : decode cX10_does 59 = .ok (.iadd, 1) := by decide +kernel
theorem dX10_does_60 : decode cX10_does 60 = .ok (.istore 7, 2) := by decide +kernel
theorem dX10_does_62 : decode cX10_does 62 = .ok (.aload_n 0, 1) := by decide +kernel
theorem dX10_does_63 : decode cX10_does 63 = .ok (.getfield 25, 3) := by decide +kernel
theorem dX10_does_66 : decode cX10_does 66 = .ok (.bipush 26, 2) := by decide +kernel
theorem dX10_does_68 : decode cX10_does 68 = .ok (.iload 5, 2) := by decide +kernel
theorem dX10_does_70 : decode cX10_does 70 = .ok (.iadd, 1) := by decide +kernel
theorem dX10_does_71 : decode cX10_does 71 = .ok (.iconst 4, 1) := by decide +kernel
theorem dX10_does_72 : decode cX10_does 72 = .ok (.iastore, 1) := by decide +kernel
theorem dX10_does_73 : decode cX10_does 73 = .ok (.aload_n 0, 1) := by decide +kernel
theorem dX10_does_74 : decode cX10_does 74 = .ok (.getfield 25, 3) := by decide +kernel
theorem dX10_does_77 : decode cX10_does 77 = .ok (.bipush 7, 2) := by decide +kernel
theorem dX10_does_79 : decode cX10_does 79 = .ok (.iaload, 1) := by decide +kernel
theorem dX10_does_80 : decode cX10_does 80 = .ok (.ifCond .ge 94, 3) := by decide +kernel
theorem dX10_does_83 : decode cX10_does 83 = .ok (.aload_n 0, 1) := by decide +kernel
theorem dX10_does_84 : decode cX10_does 84 = .ok (.getfield 25, 3) := by decide +kernel
theorem dX10_does_87 : decode cX10_does 87 = .ok (.bipush 7, 2) := by decide +kernel
theorem dX10_does_89 : decode cX10_does 89 = .ok (.iload 5, 2) := by decide +kernel
theorem dX10_does_91 : decode cX10_does 91 = .ok (.iastore, 1) := by decide +kernel
theorem dX10_does_92 : decode cX10_does 92 = .ok (.aload_n 0, 1) := by decide +kernel
theorem dX10_does_93 : decode cX10_does 93 = .ok (.getfield 25, 3) := by decide +kernel
theorem dX10_does_96 : decode cX10_does 96 = .ok (.bipush 8, 2) := by decide +kernel
theorem dX10_does_98 : decode cX10_does 98 = .ok (.aload_n 0, 1) := by decide +kernel
theorem dX10_does_99 : decode cX10_does 99 = .ok (.getfield 25, 3) := by decide +kernel
theorem dX10_does_102 : decode cX10_does 102 = .ok (.iconst 5, 1) := by decide +kernel
theorem dX10_does_103 : decode cX10_does 103 = .ok (.iaload, 1) := by decide +kernel
theorem dX10_does_104 : decode cX10_does 104 = .ok (.iastore, 1) := by decide +kernel
theorem dX10_does_105 : decode cX10_does 105 = .ok (.goto 69, 3) := by decide +kernel
theorem dX10_does_108 : decode cX10_does 108 = .ok (.iload_n 3, 1) := by decide +kernel
theorem dX10_does_109 : decode cX10_does 109 = .ok (.ifCond .ne 8, 3) := by decide +kernel
theorem dX10_does_112 : decode cX10_does 112 = .ok (.iload 6, 2) := by decide +kernel
theorem dX10_does_114 : decode cX10_does 114 = .ok (.goto 47, 3) := by decide +kernel
theorem dX10_does_117 : decode cX10_does 117 = .ok (.iload_n 3, 1) := by decide +kernel
theorem dX10_does_118 : decode cX10_does 118 = .ok (.iconst 1, 1) := by decide +kernel
theorem dX10_does_119 : decode cX10_does 119 = .ok (.if_icmp .ne 13, 3) := by decide +kernel
theorem dX10_does_122 : decode cX10_does 122 = .ok (.aload_n 0, 1) := by decide +kernel
theorem dX10_does_123 : decode cX10_does 123 = .ok (.iload_n 1, 1) := by decide +kernel
theorem dX10_does_124 : decode cX10_does 124 = .ok (.iload_n 2, 1) := by decide +kernel
theorem dX10_does_125 : decode cX10_does 125 = .ok (.iconst 2, 1) := by decide +kernel
theorem dX10_does_126 : decode cX10_does 126 = .ok (.invokevirtual 226, 3) := by decide +kernel
theorem dX10_does_129 : decode cX10_does 129 = .ok (.goto 32, 3) := by decide +kernel
theorem dX10_does_132 : decode cX10_does 132 = .ok (.iload_n 3, 1) := by decide +kernel
theorem dX10_does_133 : decode cX10_does 133 = .ok (.iconst 3, 1) := by decide +kernel
theorem dX10_does_134 : decode cX10_does 134 = .ok (.if_icmp .eq 8, 3) := by decide +kernel
theorem dX10_does_137 : decode cX10_does 137 = .ok (.iload 4, 2) := by decide +kernel
theorem dX10_does_139 : decode cX10_does 139 = .ok (.ifCond .ne 10, 3) := by decide +kernel
theorem dX10_does_142 : decode cX10_does 142 = .ok (.iload 6, 2) := by decide +kernel
theorem dX10_does_144 : decode cX10_does 144 = .ok (.iconst 2, 1) := by decide +kernel
theorem dX10_does_145 : decode cX10_does 145 = .ok (.idiv, 1) := by decide +kernel
theorem dX10_does_146 : decode cX10_does 146 = .ok (.goto 15, 3) := by decide +kernel
theorem dX10_does_149 : decode cX10_does 149 = .ok (.iload 6, 2) := by decide +kernel
theorem dX10_does_151 : decode cX10_does 151 = .ok (.aload_n 0, 1) := by decide +kernel
theorem dX10_does_152 : decode cX10_does 152 = .ok (.iload_n 1, 1) := by decide +kernel
theorem dX10_does_153 : decode cX10_does 153 = .ok (.iload_n 2, 1) := by decide +kernel
theorem dX10_does_154 : decode cX10_does 154 = .ok (.iconst 2, 1) := by decide +kernel
theorem dX10_does_155 : decode cX10_does 155 = .ok (.invokevirtual 226, 3) := by decide +kernel
theorem dX10_does_158 : decode cX10_does 158 = .ok (.iadd, 1) := by decide +kernel
theorem dX10_does_159 : decode cX10_does 159 = .ok (.iconst 2, 1) := by decide +kernel
theorem dX10_does_160 : decode cX10_does 160 = .ok (.idiv, 1) := by decide +kernel
theorem dX10_does_161 : decode cX10_does 161 = .ok (.istore 8, 2) := by decide +kernel
theorem dX10_does_163 : decode cX10_does 163 = .ok (.aload_n 0, 1) := by decide +kernel
theorem dX10_does_164 : decode cX10_does 164 = .ok (.getfield 25, 3) := by decide +kernel
theorem dX10_does_167 : decode cX10_does 167 = .ok (.bipush 26, 2) := by decide +kernel
theorem dX10_does_169 : decode cX10_does 169 = .ok (.iload 5, 2) := by decide +kernel
theorem dX10_does_171 : decode cX10_does 171 = .ok (.iadd, 1) := by decide +kernel
theorem dX10_does_172 : decode cX10_does 172 = .ok (.iload_n 3, 1) := by decide +kernel
theorem dX10_does_173 : decode cX10_does 173 = .ok (.iastore, 1) := by decide +kernel
theorem dX10_does_174 : decode cX10_does 174 = .ok (.aload_n 0, 1) := by decide +kernel
theorem dX10_does_175 : decode cX10_does 175 = .ok (.iload_n 1, 1) := by decide +kernel
theorem dX10_does_176 : decode cX10_does 176 = .ok (.iload_n 2, 1) := by decide +kernel
theorem dX10_does_177 : decode cX10_does 177 = .ok (.iconst 3, 1) := by decide +kernel
theorem dX10_does_178 : decode cX10_does 178 = .ok (.invokevirtual 226, 3) := by decide +kernel
theorem dX10_does_181 : decode cX10_does 181 = .ok (.istore 9, 2) := by decide +kernel
theorem dX10_does_183 : decode cX10_does 183 = .ok (.aload_n 0, 1) := by decide +kernel
theorem dX10_does_184 : decode cX10_does 184 = .ok (.getfield 25, 3) := by decide +kernel
theorem dX10_does_187 : decode cX10_does 187 = .ok (.bipush 10, 2) := by decide +kernel
theorem dX10_does_189 : decode cX10_does 189 = .ok (.iload 5, 2) := by decide +kernel
theorem dX10_does_191 : decode cX10_does 191 = .ok (.iadd, 1) := by decide +kernel
theorem dX10_does_192 : decode cX10_does 192 = .ok (.iload 7, 2) := by decide +kernel
theorem dX10_does_194 : decode cX10_does 194 = .ok (.iload 9, 2) := by decide +kernel
theorem dX10_does_196 : decode cX10_does 196 = .ok (.if_icmp .le 8, 3) := by decide +kernel
theorem dX10_does_199 : decode cX10_does 199 = .ok (.iload 9, 2) := by decide +kernel
theorem dX10_does_201 : decode cX10_does 201 = .ok (.goto 5, 3) := by decide +kernel
theorem dX10_does_204 : decode cX10_does 204 = .ok (.iload 7, 2) := by decide +kernel
theorem dX10_does_206 : decode cX10_does 206 = .ok (.iastore, 1) := by decide +kernel
theorem dX10_does_207 : decode cX10_does 207 = .ok (.aload_n 0, 1) := by decide +kernel
theorem dX10_does_208 : decode cX10_does 208 = .ok (.getfield 25, 3) := by decide +kernel
theorem dX10_does_211 : decode cX10_does 211 = .ok (.bipush 42, 2) := by decide +kernel
theorem dX10_does_213 : decode cX10_does 213 = .ok (.iload 5, 2) := by decide +kernel
theorem dX10_does_215 : decode cX10_does 215 = .ok (.iadd, 1) := by decide +kernel
theorem dX10_does_216 : decode cX10_does 216 = .ok (.iload 8, 2) := by decide +kernel
theorem dX10_does_218 : decode cX10_does 218 = .ok (.iastore, 1) := by decide +kernel
theorem dX10_does_219 : decode cX10_does 219 = .ok (.iload 8, 2) := by decide +kernel
theorem dX10_does_221 : decode cX10_does 221 = .ok (.ireturn, 1) := by decide +kernel
theorem dX10_endOf_0 : decode cX10_endOf 0 = .ok (.aload_n 0, 1) := by decide +kernel
theorem dX10_endOf_1 : decode cX10_endOf 1 = .ok (.getfield 25, 3) := by decide +kernel
theorem dX10_endOf_4 : decode cX10_endOf 4 = .ok (.iconst 3, 1) := by decide +kernel
theorem dX10_endOf_5 : decode cX10_endOf 5 = .ok (.iaload, 1) := by decide +kernel
theorem dX10_endOf_6 : decode cX10_endOf 6 = .ok (.ifCond .ne 7, 3) := by decide +kernel
theorem dX10_endOf_9 : decode cX10_endOf 9 = .ok (.iload_n 1, 1) := by decide +kernel
theorem dX10_endOf_10 : decode cX10_endOf 10 = .ok (.goto 6, 3) := by decide +kernel
theorem dX10_endOf_13 : decode cX10_endOf 13 = .ok (.iconst 1, 1) := by decide +kernel
theorem dX10_endOf_14 : decode cX10_endOf 14 = .ok (.iload_n 1, 1) := by decide +kernel
theorem dX10_endOf_15 : decode cX10_endOf 15 = .ok (.isub, 1) := by decide +kernel
theorem dX10_endOf_16 : decode cX10_endOf 16 = .ok (.ireturn, 1) := by decide +kernel
theorem dX10_tenth_0 : decode cX10_tenth 0 = .ok (.bipush 11, 2) := by decide +kernel
theorem dX10_tenth_2 : decode cX10_tenth 2 = .ok (.istore_n 3, 1) := by decide +kernel
theorem dX10_tenth_3 : decode cX10_tenth 3 = .ok (.iload_n 3, 1) := by decide +kernel
theorem dX10_tenth_4 : decode cX10_tenth 4 = .ok (.iconst 1, 1) := by decide +kernel
theorem dX10_tenth_5 : decode cX10_tenth 5 = .ok (.if_icmp .le 29, 3) := by decide +kernel
theorem dX10_tenth_8 : decode cX10_tenth 8 = .ok (.aload_n 0, 1) := by decide +kernel
theorem dX10_tenth_9 : decode cX10_tenth 9 = .ok (.getfield 25, 3) := by decide +kernel
theorem dX10_tenth_12 : decode cX10_tenth 12 = .ok (.bipush 58, 2) := by decide +kernel
theorem dX10_tenth_14 : decode cX10_tenth 14 = .ok (.iload_n 3, 1) := by decide +kernel
theorem dX10_tenth_15 : decode cX10_tenth 15 = .ok (.iadd, 1) := by decide +kernel
theorem dX10_tenth_16 : decode cX10_tenth 16 = .ok (.aload_n 0, 1) := by decide +kernel
theorem dX10_tenth_17 : decode cX10_tenth 17 = .ok (.getfield 25, 3) := by decide +kernel
theorem dX10_tenth_20 : decode cX10_tenth 20 = .ok (.bipush 58, 2) := by decide +kernel
theorem dX10_tenth_22 : decode cX10_tenth 22 = .ok (.iload_n 3, 1) := by decide +kernel
theorem dX10_tenth_23 : decode cX10_tenth 23 = .ok (.iadd, 1) := by decide +kernel
theorem dX10_tenth_24 : decode cX10_tenth 24 = .ok (.iconst 2, 1) := by decide +kernel
theorem dX10_tenth_25 : decode cX10_tenth 25 = .ok (.isub, 1) := by decide +kernel
theorem dX10_tenth_26 : decode cX10_tenth 26 = .ok (.iaload, 1) := by decide +kernel
theorem dX10_tenth_27 : decode cX10_tenth 27 = .ok (.iastore, 1) := by decide +kernel
theorem dX10_tenth_28 : decode cX10_tenth 28 = .ok (.iinc 3 (-1), 3) := by decide +kernel
theorem dX10_tenth_31 : decode cX10_tenth 31 = .ok (.goto (-28), 3) := by decide +kernel
theorem dX10_tenth_34 : decode cX10_tenth 34 = .ok (.aload_n 0, 1) := by decide +kernel
theorem dX10_tenth_35 : decode cX10_tenth 35 = .ok (.getfield 25, 3) := by decide +kernel
theorem dX10_tenth_38 : decode cX10_tenth 38 = .ok (.bipush 58, 2) := by decide +kernel
theorem dX10_tenth_40 : decode cX10_tenth 40 = .ok (.iload_n 1, 1) := by decide +kernel
theorem dX10_tenth_41 : decode cX10_tenth 41 = .ok (.iastore, 1) := by decide +kernel
theorem dX10_tenth_42 : decode cX10_tenth 42 = .ok (.aload_n 0, 1) := by decide +kernel
theorem dX10_tenth_43 : decode cX10_tenth 43 = .ok (.getfield 25, 3) := by decide +kernel
theorem dX10_tenth_46 : decode cX10_tenth 46 = .ok (.bipush 59, 2) := by decide +kernel
theorem dX10_tenth_48 : decode cX10_tenth 48 = .ok (.iload_n 2, 1) := by decide +kernel
theorem dX10_tenth_49 : decode cX10_tenth 49 = .ok (.iastore, 1) := by decide +kernel
theorem dX10_tenth_50 : decode cX10_tenth 50 = .ok (.iconst 0, 1) := by decide +kernel
theorem dX10_tenth_51 : decode cX10_tenth 51 = .ok (.istore_n 3, 1) := by decide +kernel
theorem dX10_tenth_52 : decode cX10_tenth 52 = .ok (.iload_n 3, 1) := by decide +kernel
theorem dX10_tenth_53 : decode cX10_tenth 53 = .ok (.iconst 2, 1) := by decide +kernel
theorem dX10_tenth_54 : decode cX10_tenth 54 = .ok (.if_icmp .ge 106, 3) := by decide +kernel
theorem dX10_tenth_57 : decode cX10_tenth 57 = .ok (.iconst 0, 1) := by decide +kernel
theorem dX10_tenth_58 : decode cX10_tenth 58 = .ok (.istore 4, 2) := by decide +kernel
theorem dX10_tenth_60 : decode cX10_tenth 60 = .ok (.iconst 0, 1) := by decide +kernel
theorem dX10_tenth_61 : decode cX10_tenth 61 = .ok (.istore 5, 2) := by decide +kernel
theorem dX10_tenth_63 : decode cX10_tenth 63 = .ok (.iload 5, 2) := by decide +kernel
theorem dX10_tenth_65 : decode cX10_tenth 65 = .ok (.aload_n 0, 1) := by decide +kernel
theorem dX10_tenth_66 : decode cX10_tenth 66 = .ok (.getfield 19, 3) := by decide +kernel
theorem dX10_tenth_69 : decode cX10_tenth 69 = .ok (.iconst 0, 1) := by decide +kernel
theorem dX10_tenth_70 : decode cX10_tenth 70 = .ok (.iload_n 3, 1) := by decide +kernel
theorem dX10_tenth_71 : decode cX10_tenth 71 = .ok (.iadd, 1) := by decide +kernel
theorem dX10_tenth_72 : decode cX10_tenth 72 = .ok (.iaload, 1) := by decide +kernel
theorem dX10_tenth_73 : decode cX10_tenth 73 = .ok (.if_icmp .ge 59, 3) := by decide +kernel
theorem dX10_tenth_76 : decode cX10_tenth 76 = .ok (.iload 4, 2) := by decide +kernel
theorem dX10_tenth_78 : decode cX10_tenth 78 = .ok (.aload_n 0, 1) := by decide +kernel
theorem dX10_tenth_79 : decode cX10_tenth 79 = .ok (.iload_n 3, 1) := by decide +kernel
theorem dX10_tenth_80 : decode cX10_tenth 80 = .ok (.iload 5, 2) := by decide +kernel
theorem dX10_tenth_82 : decode cX10_tenth 82 = .ok (.aload_n 0, 1) := by decide +kernel
theorem dX10_tenth_83 : decode cX10_tenth 83 = .ok (.getfield 25, 3) := by decide +kernel
theorem dX10_tenth_86 : decode cX10_tenth 86 = .ok (.bipush 58, 2) := by decide +kernel
theorem dX10_tenth_88 : decode cX10_tenth 88 = .ok (.iconst 2, 1) := by decide +kernel
theorem dX10_tenth_89 : decode cX10_tenth 89 = .ok (.aload_n 0, 1) := by decide +kernel
theorem dX10_tenth_90 : decode cX10_tenth 90 = .ok (.iload_n 3, 1) := by decide +kernel
theorem dX10_tenth_91 : decode cX10_tenth 91 = .ok (.iload 5, 2) := by decide +kernel
theorem dX10_tenth_93 : decode cX10_tenth 93 = .ok (.iconst 4, 1) := by decide +kernel
theorem dX10_tenth_94 : decode cX10_tenth 94 = .ok (.invokevirtual 226, 3) := by decide +kernel
theorem dX10_tenth_97 : decode cX10_tenth 97 = .ok (.imul, 1) := by decide +kernel
theorem dX10_tenth_98 : decode cX10_tenth 98 = .ok (.iadd, 1) := by decide +kernel
theorem dX10_tenth_99 : decode cX10_tenth 99 = .ok (.iload_n 3, 1) := by decide +kernel
theorem dX10_tenth_100 : decode cX10_tenth 100 = .ok (.iadd, 1) := by decide +kernel
theorem dX10_tenth_101 : decode cX10_tenth 101 = .ok (.iaload, 1) := by decide +kernel
theorem dX10_tenth_102 : decode cX10_tenth 102 = .ok (.aload_n 0, 1) := by decide +kernel
theorem dX10_tenth_103 : decode cX10_tenth 103 = .ok (.getfield 25, 3) := by decide +kernel
theorem dX10_tenth_106 : decode cX10_tenth 106 = .ok (.bipush 59, 2) := by decide +kernel
theorem dX10_tenth_108 : decode cX10_tenth 108 = .ok (.iload_n 3, 1) := by decide +kernel
theorem dX10_tenth_109 : decode cX10_tenth 109 = .ok (.isub, 1) := by decide +kernel
theorem dX10_tenth_110 : decode cX10_tenth 110 = .ok (.iaload, 1) := by decide +kernel
theorem dX10_tenth_111 : decode cX10_tenth 111 = .ok (.iconst 1, 1) := by decide +kernel
theorem dX10_tenth_112 : decode cX10_tenth 112 = .ok (.if_icmp .ne 7, 3) := by decide +kernel
theorem dX10_tenth_115 : decode cX10_tenth 115 = .ok (.iconst 1, 1) := by decide +kernel
theorem dX10_tenth_116 : decode cX10_tenth 116 = .ok (.goto 4, 3) := by decide +kernel
theorem dX10_tenth_119 : decode cX10_tenth 119 = .ok (.iconst 0, 1) := by decide +kernel
theorem dX10_tenth_120 : decode cX10_tenth 120 = .ok (.invokevirtual 240, 3) := by decide +kernel
theorem dX10_tenth_123 : decode cX10_tenth 123 = .ok (.iadd, 1) := by decide +kernel
theorem dX10_tenth_124 : decode cX10_tenth 124 = .ok (.istore 4, 2) := by decide +kernel
theorem dX10_tenth_126 : decode cX10_tenth 126 = .ok (.iinc 5 1, 3) := by decide +kernel
theorem dX10_tenth_129 : decode cX10_tenth 129 = .ok (.goto (-66), 3) := by decide +kernel
theorem dX10_tenth_132 : decode cX10_tenth 132 = .ok (.aload_n 0, 1) := by decide +kernel
theorem dX10_tenth_133 : decode cX10_tenth 133 = .ok (.getfield 31, 3) := by decide +kernel
theorem dX10_tenth_136 : decode cX10_tenth 136 = .ok (.iload_n 3, 1) := by decide +kernel
theorem dX10_tenth_137 : decode cX10_tenth 137 = .ok (.iload 4, 2) := by decide +kernel
theorem dX10_tenth_139 : decode cX10_tenth 139 = .ok (.aload_n 0, 1) := by decide +kernel
theorem dX10_tenth_140 : decode cX10_tenth 140 = .ok (.getfield 25, 3) := by decide +kernel
theorem dX10_tenth_143 : decode cX10_tenth 143 = .ok (.aload_n 0, 1) := by decide +kernel
theorem dX10_tenth_144 : decode cX10_tenth 144 = .ok (.iload_n 3, 1) := by decide +kernel
theorem dX10_tenth_145 : decode cX10_tenth 145 = .ok (.invokevirtual 244, 3) := by decide +kernel
theorem dX10_tenth_148 : decode cX10_tenth 148 = .ok (.iaload, 1) := by decide +kernel
theorem dX10_tenth_149 : decode cX10_tenth 149 = .ok (.imul, 1) := by decide +kernel
theorem dX10_tenth_150 : decode cX10_tenth 150 = .ok (.bipush 100, 2) := by decide +kernel
theorem dX10_tenth_152 : decode cX10_tenth 152 = .ok (.idiv, 1) := by decide +kernel
theorem dX10_tenth_153 : decode cX10_tenth 153 = .ok (.iastore, 1) := by decide +kernel
theorem dX10_tenth_154 : decode cX10_tenth 154 = .ok (.iinc 3 1, 3) := by decide +kernel
theorem dX10_tenth_157 : decode cX10_tenth 157 = .ok (.goto (-105), 3) := by decide +kernel
theorem dX10_tenth_160 : decode cX10_tenth 160 = .ok (.iconst 0, 1) := by decide +kernel
theorem dX10_tenth_161 : decode cX10_tenth 161 = .ok (.istore_n 3, 1) := by decide +kernel
theorem dX10_tenth_162 : decode cX10_tenth 162 = .ok (.iload_n 3, 1) := by decide +kernel
theorem dX10_tenth_163 : decode cX10_tenth 163 = .ok (.iconst 2, 1) := by decide +kernel
theorem dX10_tenth_164 : decode cX10_tenth 164 = .ok (.if_icmp .ge 68, 3) := by decide +kernel
theorem dX10_tenth_167 : decode cX10_tenth 167 = .ok (.aload_n 0, 1) := by decide +kernel
theorem dX10_tenth_168 : decode cX10_tenth 168 = .ok (.getfield 25, 3) := by decide +kernel
theorem dX10_tenth_171 : decode cX10_tenth 171 = .ok (.aload_n 0, 1) := by decide +kernel
theorem dX10_tenth_172 : decode cX10_tenth 172 = .ok (.iload_n 3, 1) := by decide +kernel
theorem dX10_tenth_173 : decode cX10_tenth 173 = .ok (.invokevirtual 244, 3) := by decide +kernel
theorem dX10_tenth_176 : decode cX10_tenth 176 = .ok (.iaload, 1) := by decide +kernel
theorem dX10_tenth_177 : decode cX10_tenth 177 = .ok (.aload_n 0, 1) := by decide +kernel
theorem dX10_tenth_178 : decode cX10_tenth 178 = .ok (.getfield 25, 3) := by decide +kernel
theorem dX10_tenth_181 : decode cX10_tenth 181 = .ok (.bipush 58, 2) := by decide +kernel
theorem dX10_tenth_183 : decode cX10_tenth 183 = .ok (.iload_n 3, 1) := by decide +kernel
theorem dX10_tenth_184 : decode cX10_tenth 184 = .ok (.iadd, 1) := by decide +kernel
theorem dX10_tenth_185 : decode cX10_tenth 185 = .ok (.iaload, 1) := by decide +kernel
theorem dX10_tenth_186 : decode cX10_tenth 186 = .ok (.iconst 1, 1) := by decide +kernel
theorem dX10_tenth_187 : decode cX10_tenth 187 = .ok (.if_icmp .ne 13, 3) := by decide +kernel
theorem dX10_tenth_190 : decode cX10_tenth 190 = .ok (.aload_n 0, 1) := by decide +kernel
theorem dX10_tenth_191 : decode cX10_tenth 191 = .ok (.getfield 19, 3) := by decide +kernel
theorem dX10_tenth_194 : decode cX10_tenth 194 = .ok (.bipush 6, 2) := by decide +kernel
theorem dX10_tenth_196 : decode cX10_tenth 196 = .ok (.iaload, 1) := by decide +kernel
theorem dX10_tenth_197 : decode cX10_tenth 197 = .ok (.goto 4, 3) := by decide +kernel
theorem dX10_tenth_200 : decode cX10_tenth 200 = .ok (.iconst 0, 1) := by decide +kernel
theorem dX10_tenth_201 : decode cX10_tenth 201 = .ok (.isub, 1) := by decide +kernel
theorem dX10_tenth_202 : decode cX10_tenth 202 = .ok (.istore 4, 2) := by decide +kernel
theorem dX10_tenth_204 : decode cX10_tenth 204 = .ok (.aload_n 0, 1) := by decide +kernel
theorem dX10_tenth_205 : decode cX10_tenth 205 = .ok (.getfield 25, 3) := by decide +kernel
theorem dX10_tenth_208 : decode cX10_tenth 208 = .ok (.aload_n 0, 1) := by decide +kernel
theorem dX10_tenth_209 : decode cX10_tenth 209 = .ok (.iload_n 3, 1) := by decide +kernel
theorem dX10_tenth_210 : decode cX10_tenth 210 = .ok (.invokevirtual 244, 3) := by decide +kernel
theorem dX10_tenth_213 : decode cX10_tenth 213 = .ok (.iload 4, 2) := by decide +kernel
theorem dX10_tenth_215 : decode cX10_tenth 215 = .ok (.iconst 1, 1) := by decide +kernel
theorem dX10_tenth_216 : decode cX10_tenth 216 = .ok (.if_icmp .ge 7, 3) := by decide +kernel
theorem dX10_tenth_219 : decode cX10_tenth 219 = .ok (.iconst 1, 1) := by decide +kernel
theorem dX10_tenth_220 : decode cX10_tenth 220 = .ok (.goto 5, 3) := by decide +kernel
theorem dX10_tenth_223 : decode cX10_tenth 223 = .ok (.iload 4, 2) := by decide +kernel
theorem dX10_tenth_225 : decode cX10_tenth 225 = .ok (.iastore, 1) := by decide +kernel
theorem dX10_tenth_226 : decode cX10_tenth 226 = .ok (.iinc 3 1, 3) := by decide +kernel
theorem dX10_tenth_229 : decode cX10_tenth 229 = .ok (.goto (-67), 3) := by decide +kernel
theorem dX10_tenth_232 : decode cX10_tenth 232 = .ok (.aload_n 0, 1) := by decide +kernel
theorem dX10_tenth_233 : decode cX10_tenth 233 = .ok (.getfield 31, 3) := by decide +kernel
theorem dX10_tenth_236 : decode cX10_tenth 236 = .ok (.iconst 0, 1) := by decide +kernel
theorem dX10_tenth_237 : decode cX10_tenth 237 = .ok (.iaload, 1) := by decide +kernel
theorem dX10_tenth_238 : decode cX10_tenth 238 = .ok (.aload_n 0, 1) := by decide +kernel
theorem dX10_tenth_239 : decode cX10_tenth 239 = .ok (.getfield 31, 3) := by decide +kernel
theorem dX10_tenth_242 : decode cX10_tenth 242 = .ok (.iconst 1, 1) := by decide +kernel
theorem dX10_tenth_243 : decode cX10_tenth 243 = .ok (.iaload, 1) := by decide +kernel
theorem dX10_tenth_244 : decode cX10_tenth 244 = .ok (.isub, 1) := by decide +kernel
theorem dX10_tenth_245 : decode cX10_tenth 245 = .ok (.bipush 100, 2) := by decide +kernel
theorem dX10_tenth_247 : decode cX10_tenth 247 = .ok (.idiv, 1) := by decide +kernel
theorem dX10_tenth_248 : decode cX10_tenth 248 = .ok (.istore_n 3, 1) := by decide +kernel
theorem dX10_tenth_249 : decode cX10_tenth 249 = .ok (.aload_n 0, 1) := by decide +kernel
theorem dX10_tenth_250 : decode cX10_tenth 250 = .ok (.getfield 25, 3) := by decide +kernel
theorem dX10_tenth_253 : decode cX10_tenth 253 = .ok (.iconst 4, 1) := by decide +kernel
theorem dX10_tenth_254 : decode cX10_tenth 254 = .ok (.dup2, 1) := by decide +kernel
theorem dX10_tenth_255 : decode cX10_tenth 255 = .ok (.iaload, 1) := by decide +kernel
theorem dX10_tenth_256 : decode cX10_tenth 256 = .ok (.iload_n 3, 1) := by decide +kernel
theorem dX10_tenth_257 : decode cX10_tenth 257 = .ok (.iconst 3, 1) := by decide +kernel
theorem dX10_tenth_258 : decode cX10_tenth 258 = .ok (.if_icmp .le 7, 3) := by decide +kernel
theorem dX10_tenth_261 : decode cX10_tenth 261 = .ok (.iconst 3, 1) := by decide +kernel
theorem dX10_tenth_262 : decode cX10_tenth 262 = .ok (.goto 15, 3) := by decide +kernel
theorem dX10_tenth_265 : decode cX10_tenth 265 = .ok (.iload_n 3, 1) := by decide +kernel
theorem dX10_tenth_266 : decode cX10_tenth 266 = .ok (.bipush (-3), 2) := by decide +kernel
theorem dX10_tenth_268 : decode cX10_tenth 268 = .ok (.if_icmp .ge 8, 3) := by decide +kernel
theorem dX10_tenth_271 : decode cX10_tenth 271 = .ok (.bipush (-3), 2) := by decide +kernel
theorem dX10_tenth_273 : decode cX10_tenth 273 = .ok (.goto 4, 3) := by decide +kernel
theorem dX10_tenth_276 : decode cX10_tenth 276 = .ok (.iload_n 3, 1) := by decide +kernel
theorem dX10_tenth_277 : decode cX10_tenth 277 = .ok (.iadd, 1) := by decide +kernel
theorem dX10_tenth_278 : decode cX10_tenth 278 = .ok (.iastore, 1) := by decide +kernel
theorem dX10_tenth_279 : decode cX10_tenth 279 = .ok (.aload_n 0, 1) := by decide +kernel
theorem dX10_tenth_280 : decode cX10_tenth 280 = .ok (.getfield 25, 3) := by decide +kernel
theorem dX10_tenth_283 : decode cX10_tenth 283 = .ok (.bipush 6, 2) := by decide +kernel
theorem dX10_tenth_285 : decode cX10_tenth 285 = .ok (.aload_n 0, 1) := by decide +kernel
theorem dX10_tenth_286 : decode cX10_tenth 286 = .ok (.getfield 25, 3) := by decide +kernel
theorem dX10_tenth_289 : decode cX10_tenth 289 = .ok (.iconst 4, 1) := by decide +kernel
theorem dX10_tenth_290 : decode cX10_tenth 290 = .ok (.iaload, 1) := by decide +kernel
theorem dX10_tenth_291 : decode cX10_tenth 291 = .ok (.aload_n 0, 1) := by decide +kernel
theorem dX10_tenth_292 : decode cX10_tenth 292 = .ok (.getfield 19, 3) := by decide +kernel
theorem dX10_tenth_295 : decode cX10_tenth 295 = .ok (.bipush 7, 2) := by decide +kernel
theorem dX10_tenth_297 : decode cX10_tenth 297 = .ok (.iaload, 1) := by decide +kernel
theorem dX10_tenth_298 : decode cX10_tenth 298 = .ok (.if_icmp .lt 7, 3) := by decide +kernel
theorem dX10_tenth_301 : decode cX10_tenth 301 = .ok (.iconst 0, 1) := by decide +kernel
theorem dX10_tenth_302 : decode cX10_tenth 302 = .ok (.goto 25, 3) := by decide +kernel
theorem dX10_tenth_305 : decode cX10_tenth 305 = .ok (.aload_n 0, 1) := by decide +kernel
theorem dX10_tenth_306 : decode cX10_tenth 306 = .ok (.getfield 25, 3) := by decide +kernel
theorem dX10_tenth_309 : decode cX10_tenth 309 = .ok (.iconst 4, 1) := by decide +kernel
theorem dX10_tenth_310 : decode cX10_tenth 310 = .ok (.iaload, 1) := by decide +kernel
theorem dX10_tenth_311 : decode cX10_tenth 311 = .ok (.aload_n 0, 1) := by decide +kernel
theorem dX10_tenth_312 : decode cX10_tenth 312 = .ok (.getfield 19, 3) := by decide +kernel
theorem dX10_tenth_315 : decode cX10_tenth 315 = .ok (.bipush 7, 2) := by decide +kernel
theorem dX10_tenth_317 : decode cX10_tenth 317 = .ok (.iaload, 1) := by decide +kernel
theorem dX10_tenth_318 : decode cX10_tenth 318 = .ok (.ineg, 1) := by decide +kernel
theorem dX10_tenth_319 : decode cX10_tenth 319 = .ok (.if_icmp .gt 7, 3) := by decide +kernel
theorem dX10_tenth_322 : decode cX10_tenth 322 = .ok (.iconst 1, 1) := by decide +kernel
theorem dX10_tenth_323 : decode cX10_tenth 323 = .ok (.goto 4, 3) := by decide +kernel
theorem dX10_tenth_326 : decode cX10_tenth 326 = .ok (.iconst (-1), 1) := by decide +kernel
theorem dX10_tenth_327 : decode cX10_tenth 327 = .ok (.iastore, 1) := by decide +kernel
theorem dX10_tenth_328 : decode cX10_tenth 328 = .ok (.aload_n 0, 1) := by decide +kernel
theorem dX10_tenth_329 : decode cX10_tenth 329 = .ok (.getfield 25, 3) := by decide +kernel
theorem dX10_tenth_332 : decode cX10_tenth 332 = .ok (.iconst 5, 1) := by decide +kernel
theorem dX10_tenth_333 : decode cX10_tenth 333 = .ok (.dup2, 1) := by decide +kernel
theorem dX10_tenth_334 : decode cX10_tenth 334 = .ok (.iaload, 1) := by decide +kernel
theorem dX10_tenth_335 : decode cX10_tenth 335 = .ok (.iconst 1, 1) := by decide +kernel
theorem dX10_tenth_336 : decode cX10_tenth 336 = .ok (.iadd, 1) := by decide +kernel
theorem dX10_tenth_337 : decode cX10_tenth 337 = .ok (.iastore, 1) := by decide +kernel
theorem dX10_tenth_338 : decode cX10_tenth 338 = .ok (.aload_n 0, 1) := by decide +kernel
theorem dX10_tenth_339 : decode cX10_tenth 339 = .ok (.invokevirtual 247, 3) := by decide +kernel
theorem dX10_tenth_342 : decode cX10_tenth 342 = .ok (.return_, 1) := by decide +kernel
theorem dX10_keepTenth_0 : decode cX10_keepTenth 0 = .ok (.sipush 369, 3) := by decide +kernel
theorem dX10_keepTenth_3 : decode cX10_keepTenth 3 = .ok (.istore_n 1, 1) := by decide +kernel
theorem dX10_keepTenth_4 : decode cX10_keepTenth 4 = .ok (.iload_n 1, 1) := by decide +kernel
theorem dX10_keepTenth_5 : decode cX10_keepTenth 5 = .ok (.bipush 75, 2) := by decide +kernel
theorem dX10_keepTenth_7 : decode cX10_keepTenth 7 = .ok (.if_icmp .lt 23, 3) := by decide +kernel
theorem dX10_keepTenth_10 : decode cX10_keepTenth 10 = .ok (.aload_n 0, 1) := by decide +kernel
theorem dX10_keepTenth_11 : decode cX10_keepTenth 11 = .ok (.getfield 25, 3) := by decide +kernel
theorem dX10_keepTenth_14 : decode cX10_keepTenth 14 = .ok (.iload_n 1, 1) := by decide +kernel
theorem dX10_keepTenth_15 : decode cX10_keepTenth 15 = .ok (.aload_n 0, 1) := by decide +kernel
theorem dX10_keepTenth_16 : decode cX10_keepTenth 16 = .ok (.getfield 25, 3) := by decide +kernel
theorem dX10_keepTenth_19 : decode cX10_keepTenth 19 = .ok (.iload_n 1, 1) := by decide +kernel
theorem dX10_keepTenth_20 : decode cX10_keepTenth 20 = .ok (.iconst 5, 1) := by decide +kernel
theorem dX10_keepTenth_21 : decode cX10_keepTenth 21 = .ok (.isub, 1) := by decide +kernel
theorem dX10_keepTenth_22 : decode cX10_keepTenth 22 = .ok (.iaload, 1) := by decide +kernel
theorem dX10_keepTenth_23 : decode cX10_keepTenth 23 = .ok (.iastore, 1) := by decide +kernel
theorem dX10_keepTenth_24 : decode cX10_keepTenth 24 = .ok (.iinc 1 (-1), 3) := by decide +kernel
theorem dX10_keepTenth_27 : decode cX10_keepTenth 27 = .ok (.goto (-23), 3) := by decide +kernel
theorem dX10_keepTenth_30 : decode cX10_keepTenth 30 = .ok (.aload_n 0, 1) := by decide +kernel
theorem dX10_keepTenth_31 : decode cX10_keepTenth 31 = .ok (.getfield 25, 3) := by decide +kernel
theorem dX10_keepTenth_34 : decode cX10_keepTenth 34 = .ok (.bipush 70, 2) := by decide +kernel
theorem dX10_keepTenth_36 : decode cX10_keepTenth 36 = .ok (.aload_n 0, 1) := by decide +kernel
theorem dX10_keepTenth_37 : decode cX10_keepTenth 37 = .ok (.getfield 25, 3) := by decide +kernel
theorem dX10_keepTenth_40 : decode cX10_keepTenth 40 = .ok (.bipush 58, 2) := by decide +kernel
theorem dX10_keepTenth_42 : decode cX10_keepTenth 42 = .ok (.iaload, 1) := by decide +kernel
theorem dX10_keepTenth_43 : decode cX10_keepTenth 43 = .ok (.iastore, 1) := by decide +kernel
theorem dX10_keepTenth_44 : decode cX10_keepTenth 44 = .ok (.aload_n 0, 1) := by decide +kernel
theorem dX10_keepTenth_45 : decode cX10_keepTenth 45 = .ok (.getfield 25, 3) := by decide +kernel
theorem dX10_keepTenth_48 : decode cX10_keepTenth 48 = .ok (.bipush 71, 2) := by decide +kernel
theorem dX10_keepTenth_50 : decode cX10_keepTenth 50 = .ok (.aload_n 0, 1) := by decide +kernel
theorem dX10_keepTenth_51 : decode cX10_keepTenth 51 = .ok (.getfield 25, 3) := by decide +kernel
theorem dX10_keepTenth_54 : decode cX10_keepTenth 54 = .ok (.bipush 59, 2) := by decide +kernel
theorem dX10_keepTenth_56 : decode cX10_keepTenth 56 = .ok (.iaload, 1) := by decide +kernel
theorem dX10_keepTenth_57 : decode cX10_keepTenth 57 = .ok (.iastore, 1) := by decide +kernel
theorem dX10_keepTenth_58 : decode cX10_keepTenth 58 = .ok (.aload_n 0, 1) := by decide +kernel
theorem dX10_keepTenth_59 : decode cX10_keepTenth 59 = .ok (.getfield 25, 3) := by decide +kernel
theorem dX10_keepTenth_62 : decode cX10_keepTenth 62 = .ok (.bipush 72, 2) := by decide +kernel
theorem dX10_keepTenth_64 : decode cX10_keepTenth 64 = .ok (.aload_n 0, 1) := by decide +kernel
theorem dX10_keepTenth_65 : decode cX10_keepTenth 65 = .ok (.getfield 31, 3) := by decide +kernel
theorem dX10_keepTenth_68 : decode cX10_keepTenth 68 = .ok (.iconst 0, 1) := by decide +kernel
theorem dX10_keepTenth_69 : decode cX10_keepTenth 69 = .ok (.iaload, 1) := by decide +kernel
theorem dX10_keepTenth_70 : decode cX10_keepTenth 70 = .ok (.iastore, 1) := by decide +kernel
theorem dX10_keepTenth_71 : decode cX10_keepTenth 71 = .ok (.aload_n 0, 1) := by decide +kernel
theorem dX10_keepTenth_72 : decode cX10_keepTenth 72 = .ok (.getfield 25, 3) := by decide +kernel
theorem dX10_keepTenth_75 : decode cX10_keepTenth 75 = .ok (.bipush 73, 2) := by decide +kernel
theorem dX10_keepTenth_77 : decode cX10_keepTenth 77 = .ok (.aload_n 0, 1) := by decide +kernel
theorem dX10_keepTenth_78 : decode cX10_keepTenth 78 = .ok (.getfield 31, 3) := by decide +kernel
theorem dX10_keepTenth_81 : decode cX10_keepTenth 81 = .ok (.iconst 1, 1) := by decide +kernel
theorem dX10_keepTenth_82 : decode cX10_keepTenth 82 = .ok (.iaload, 1) := by decide +kernel
theorem dX10_keepTenth_83 : decode cX10_keepTenth 83 = .ok (.iastore, 1) := by decide +kernel
theorem dX10_keepTenth_84 : decode cX10_keepTenth 84 = .ok (.aload_n 0, 1) := by decide +kernel
theorem dX10_keepTenth_85 : decode cX10_keepTenth 85 = .ok (.getfield 25, 3) := by decide +kernel
theorem dX10_keepTenth_88 : decode cX10_keepTenth 88 = .ok (.bipush 74, 2) := by decide +kernel
theorem dX10_keepTenth_90 : decode cX10_keepTenth 90 = .ok (.aload_n 0, 1) := by decide +kernel
theorem dX10_keepTenth_91 : decode cX10_keepTenth 91 = .ok (.getfield 25, 3) := by decide +kernel
theorem dX10_keepTenth_94 : decode cX10_keepTenth 94 = .ok (.iconst 4, 1) := by decide +kernel
theorem dX10_keepTenth_95 : decode cX10_keepTenth 95 = .ok (.iaload, 1) := by decide +kernel
theorem dX10_keepTenth_96 : decode cX10_keepTenth 96 = .ok (.iastore, 1) := by decide +kernel
theorem dX10_keepTenth_97 : decode cX10_keepTenth 97 = .ok (.aload_n 0, 1) := by decide +kernel
theorem dX10_keepTenth_98 : decode cX10_keepTenth 98 = .ok (.getfield 25, 3) := by decide +kernel
theorem dX10_keepTenth_101 : decode cX10_keepTenth 101 = .ok (.bipush 9, 2) := by decide +kernel
theorem dX10_keepTenth_103 : decode cX10_keepTenth 103 = .ok (.dup2, 1) := by decide +kernel
theorem dX10_keepTenth_104 : decode cX10_keepTenth 104 = .ok (.iaload, 1) := by decide +kernel
theorem dX10_keepTenth_105 : decode cX10_keepTenth 105 = .ok (.aload_n 0, 1) := by decide +kernel
theorem dX10_keepTenth_106 : decode cX10_keepTenth 106 = .ok (.getfield 25, 3) := by decide +kernel
theorem dX10_keepTenth_109 : decode cX10_keepTenth 109 = .ok (.bipush 9, 2) := by decide +kernel
theorem dX10_keepTenth_111 : decode cX10_keepTenth 111 = .ok (.iaload, 1) := by decide +kernel
theorem dX10_keepTenth_112 : decode cX10_keepTenth 112 = .ok (.bipush 60, 2) := by decide +kernel
theorem dX10_keepTenth_114 : decode cX10_keepTenth 114 = .ok (.if_icmp .ge 7, 3) := by decide +kernel
theorem dX10_keepTenth_117 : decode cX10_keepTenth 117 = .ok (.iconst 1, 1) := by decide +kernel
theorem dX10_keepTenth_118 : decode cX10_keepTenth 118 = .ok (.goto 4, 3) := by decide +kernel
theorem dX10_keepTenth_121 : decode cX10_keepTenth 121 = .ok (.iconst 0, 1) := by decide +kernel
theorem dX10_keepTenth_122 : decode cX10_keepTenth 122 = .ok (.iadd, 1) := by decide +kernel
theorem dX10_keepTenth_123 : decode cX10_keepTenth 123 = .ok (.iastore, 1) := by decide +kernel
theorem dX10_keepTenth_124 : decode cX10_keepTenth 124 = .ok (.return_, 1) := by decide +kernel
theorem dX10_goOn_0 : decode cX10_goOn 0 = .ok (.iconst 0, 1) := by decide +kernel
theorem dX10_goOn_1 : decode cX10_goOn 1 = .ok (.istore_n 2, 1) := by decide +kernel
theorem dX10_goOn_2 : decode cX10_goOn 2 = .ok (.iload_n 2, 1) := by decide +kernel
theorem dX10_goOn_3 : decode cX10_goOn 3 = .ok (.iload_n 1, 1) := by decide +kernel
theorem dX10_goOn_4 : decode cX10_goOn 4 = .ok (.if_icmp .ge 35, 3) := by decide +kernel
theorem dX10_goOn_7 : decode cX10_goOn 7 = .ok (.aload_n 0, 1) := by decide +kernel
theorem dX10_goOn_8 : decode cX10_goOn 8 = .ok (.getfield 25, 3) := by decide +kernel
theorem dX10_goOn_11 : decode cX10_goOn 11 = .ok (.bipush 6, 2) := by decide +kernel
theorem dX10_goOn_13 : decode cX10_goOn 13 = .ok (.iaload, 1) := by decide +kernel
theorem dX10_goOn_14 : decode cX10_goOn 14 = .ok (.ifCond .ge 25, 3) := by decide +kernel
theorem dX10_goOn_17 : decode cX10_goOn 17 = .ok (.aload_n 0, 1) := by decide +kernel
theorem dX10_goOn_18 : decode cX10_goOn 18 = .ok (.iconst 0, 1) := by decide +kernel
theorem dX10_goOn_19 : decode cX10_goOn 19 = .ok (.invokevirtual 250, 3) := by decide +kernel
theorem dX10_goOn_22 : decode cX10_goOn 22 = .ok (.istore_n 3, 1) := by decide +kernel
theorem dX10_goOn_23 : decode cX10_goOn 23 = .ok (.aload_n 0, 1) := by decide +kernel
theorem dX10_goOn_24 : decode cX10_goOn 24 = .ok (.iload_n 3, 1) := by decide +kernel
theorem dX10_goOn_25 : decode cX10_goOn 25 = .ok (.aload_n 0, 1) := by decide +kernel
theorem dX10_goOn_26 : decode cX10_goOn 26 = .ok (.iconst 1, 1) := by decide +kernel
theorem dX10_goOn_27 : decode cX10_goOn 27 = .ok (.invokevirtual 250, 3) := by decide +kernel
theorem dX10_goOn_30 : decode cX10_goOn 30 = .ok (.invokevirtual 253, 3) := by decide +kernel
theorem dX10_goOn_33 : decode cX10_goOn 33 = .ok (.iinc 2 1, 3) := by decide +kernel
theorem dX10_goOn_36 : decode cX10_goOn 36 = .ok (.goto (-34), 3) := by decide +kernel
theorem dX10_goOn_39 : decode cX10_goOn 39 = .ok (.iload_n 2, 1) := by decide +kernel
theorem dX10_goOn_40 : decode cX10_goOn 40 = .ok (.ireturn, 1) := by decide +kernel
theorem dX10_go_0 : decode cX10_go 0 = .ok (.aload_n 0, 1) := by decide +kernel
theorem dX10_go_1 : decode cX10_go 1 = .ok (.iconst 0, 1) := by decide +kernel
theorem dX10_go_2 : decode cX10_go 2 = .ok (.putfield 62, 3) := by decide +kernel
theorem dX10_go_5 : decode cX10_go 5 = .ok (.iload_n 1, 1) := by decide +kernel
