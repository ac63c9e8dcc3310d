theorem dX0_init_0 : decode cX0_init 0 = .ok (.aload_n 0, 1) := by decide +kernel
theorem dX0_init_1 : decode cX0_init 1 = .ok (.invokespecial 3, 3) := by decide +kernel
theorem dX0_init_4 : decode cX0_init 4 = .ok (.aload_n 0, 1) := by decide +kernel
theorem dX0_init_5 : decode cX0_init 5 = .ok (.bipush 16, 2) := by decide +kernel
theorem dX0_init_7 : decode cX0_init 7 = .ok (.newarray .int, 2) := by decide +kernel
theorem dX0_init_9 : decode cX0_init 9 = .ok (.putfield 9, 3) := by decide +kernel
theorem dX0_init_12 : decode cX0_init 12 = .ok (.aload_n 0, 1) := by decide +kernel
theorem dX0_init_13 : decode cX0_init 13 = .ok (.bipush 16, 2) := by decide +kernel
theorem dX0_init_15 : decode cX0_init 15 = .ok (.newarray .int, 2) := by decide +kernel
theorem dX0_init_17 : decode cX0_init 17 = .ok (.putfield 15, 3) := by decide +kernel
theorem dX0_init_20 : decode cX0_init 20 = .ok (.aload_n 0, 1) := by decide +kernel
theorem dX0_init_21 : decode cX0_init 21 = .ok (.bipush 17, 2) := by decide +kernel
theorem dX0_init_23 : decode cX0_init 23 = .ok (.newarray .int, 2) := by decide +kernel
theorem dX0_init_25 : decode cX0_init 25 = .ok (.putfield 18, 3) := by decide +kernel
theorem dX0_init_28 : decode cX0_init 28 = .ok (.return_, 1) := by decide +kernel
theorem dX0_choose_0 : decode cX0_choose 0 = .ok (.iconst 0, 1) := by decide +kernel
theorem dX0_choose_1 : decode cX0_choose 1 = .ok (.istore 4, 2) := by decide +kernel
theorem dX0_choose_3 : decode cX0_choose 3 = .ok (.iconst 0, 1) := by decide +kernel
theorem dX0_choose_4 : decode cX0_choose 4 = .ok (.istore 5, 2) := by decide +kernel
theorem dX0_choose_6 : decode cX0_choose 6 = .ok (.iload 5, 2) := by decide +kernel
theorem dX0_choose_8 : decode cX0_choose 8 = .ok (.iconst 2, 1) := by decide +kernel
theorem dX0_choose_9 : decode cX0_choose 9 = .ok (.if_icmp .ge 104, 3) := by decide +kernel
theorem dX0_choose_12 : decode cX0_choose 12 = .ok (.iconst 0, 1) := by decide +kernel
theorem dX0_choose_13 : decode cX0_choose 13 = .ok (.istore 6, 2) := by decide +kernel
theorem dX0_choose_15 : decode cX0_choose 15 = .ok (.iload 6, 2) := by decide +kernel
theorem dX0_choose_17 : decode cX0_choose 17 = .ok (.aload_n 1, 1) := by decide +kernel
theorem dX0_choose_18 : decode cX0_choose 18 = .ok (.getfield 21, 3) := by decide +kernel
theorem dX0_choose_21 : decode cX0_choose 21 = .ok (.iload 5, 2) := by decide +kernel
theorem dX0_choose_23 : decode cX0_choose 23 = .ok (.aaload, 1) := by decide +kernel
theorem dX0_choose_24 : decode cX0_choose 24 = .ok (.getfield 27, 3) := by decide +kernel
theorem dX0_choose_27 : decode cX0_choose 27 = .ok (.if_icmp .ge 80, 3) := by decide +kernel
theorem dX0_choose_30 : decode cX0_choose 30 = .ok (.aload_n 0, 1) := by decide +kernel
theorem dX0_choose_31 : decode cX0_choose 31 = .ok (.getfield 9, 3) := by decide +kernel
theorem dX0_choose_34 : decode cX0_choose 34 = .ok (.iload 4, 2) := by decide +kernel
theorem dX0_choose_36 : decode cX0_choose 36 = .ok (.aload_n 1, 1) := by decide +kernel
theorem dX0_choose_37 : decode cX0_choose 37 = .ok (.getfield 21, 3) := by decide +kernel
theorem dX0_choose_40 : decode cX0_choose 40 = .ok (.iload 5, 2) := by decide +kernel
theorem dX0_choose_42 : decode cX0_choose 42 = .ok (.aaload, 1) := by decide +kernel
theorem dX0_choose_43 : decode cX0_choose 43 = .ok (.getfield 33, 3) := by decide +kernel
theorem dX0_choose_46 : decode cX0_choose 46 = .ok (.iload 6, 2) := by decide +kernel
theorem dX0_choose_48 : decode cX0_choose 48 = .ok (.aaload, 1) := by decide +kernel
theorem dX0_choose_49 : decode cX0_choose 49 = .ok (.iconst 0, 1) := by decide +kernel
theorem dX0_choose_50 : decode cX0_choose 50 = .ok (.iaload, 1) := by decide +kernel
theorem dX0_choose_51 : decode cX0_choose 51 = .ok (.iastore, 1) := by decide +kernel
theorem dX0_choose_52 : decode cX0_choose 52 = .ok (.aload_n 0, 1) := by decide +kernel
theorem dX0_choose_53 : decode cX0_choose 53 = .ok (.getfield 15, 3) := by decide +kernel
theorem dX0_choose_56 : decode cX0_choose 56 = .ok (.iload 4, 2) := by decide +kernel
theorem dX0_choose_58 : decode cX0_choose 58 = .ok (.aload_n 1, 1) := by decide +kernel
theorem dX0_choose_59 : decode cX0_choose 59 = .ok (.getfield 21, 3) := by decide +kernel
theorem dX0_choose_62 : decode cX0_choose 62 = .ok (.iload 5, 2) := by decide +kernel
theorem dX0_choose_64 : decode cX0_choose 64 = .ok (.aaload, 1) := by decide +kernel
theorem dX0_choose_65 : decode cX0_choose 65 = .ok (.getfield 33, 3) := by decide +kernel
theorem dX0_choose_68 : decode cX0_choose 68 = .ok (.iload 6, 2) := by decide +kernel
theorem dX0_choose_70 : decode cX0_choose 70 = .ok (.aaload, 1) := by decide +kernel
theorem dX0_choose_71 : decode cX0_choose 71 = .ok (.iconst 1, 1) := by decide +kernel
theorem dX0_choose_72 : decode cX0_choose 72 = .ok (.iaload, 1) := by decide +kernel
theorem dX0_choose_73 : decode cX0_choose 73 = .ok (.iastore, 1) := by decide +kernel
theorem dX0_choose_74 : decode cX0_choose 74 = .ok (.aload_n 0, 1) := by decide +kernel
theorem dX0_choose_75 : decode cX0_choose 75 = .ok (.getfield 18, 3) := by decide +kernel
theorem dX0_choose_78 : decode cX0_choose 78 = .ok (.iload 4, 2) := by decide +kernel
theorem dX0_choose_80 : decode cX0_choose 80 = .ok (.iconst 1, 1) := by decide +kernel
theorem dX0_choose_81 : decode cX0_choose 81 = .ok (.iadd, 1) := by decide +kernel
theorem dX0_choose_82 : decode cX0_choose 82 = .ok (.aload_n 0, 1) := by decide +kernel
theorem dX0_choose_83 : decode cX0_choose 83 = .ok (.getfield 18, 3) := by decide +kernel
theorem dX0_choose_86 : decode cX0_choose 86 = .ok (.iload 4, 2) := by decide +kernel
theorem dX0_choose_88 : decode cX0_choose 88 = .ok (.iaload, 1) := by decide +kernel
theorem dX0_choose_89 : decode cX0_choose 89 = .ok (.aload_n 0, 1) := by decide +kernel
theorem dX0_choose_90 : decode cX0_choose 90 = .ok (.getfield 15, 3) := by decide +kernel
theorem dX0_choose_93 : decode cX0_choose 93 = .ok (.iload 4, 2) := by decide +kernel
theorem dX0_choose_95 : decode cX0_choose 95 = .ok (.iaload, 1) := by decide +kernel
theorem dX0_choose_96 : decode cX0_choose 96 = .ok (.iadd, 1) := by decide +kernel
theorem dX0_choose_97 : decode cX0_choose 97 = .ok (.iastore, 1) := by decide +kernel
theorem dX0_choose_98 : decode cX0_choose 98 = .ok (.iinc 4 1, 3) := by decide +kernel
theorem dX0_choose_101 : decode cX0_choose 101 = .ok (.iinc 6 1, 3) := by decide +kernel
theorem dX0_choose_104 : decode cX0_choose 104 = .ok (.goto (-89), 3) := by decide +kernel
theorem dX0_choose_107 : decode cX0_choose 107 = .ok (.iinc 5 1, 3) := by decide +kernel
theorem dX0_choose_110 : decode cX0_choose 110 = .ok (.goto (-104), 3) := by decide +kernel
theorem dX0_choose_113 : decode cX0_choose 113 = .ok (.aload_n 0, 1) := by decide +kernel
theorem dX0_choose_114 : decode cX0_choose 114 = .ok (.iconst 0, 1) := by decide +kernel
theorem dX0_choose_115 : decode cX0_choose 115 = .ok (.putfield 37, 3) := by decide +kernel
theorem dX0_choose_118 : decode cX0_choose 118 = .ok (.aload_n 0, 1) := by decide +kernel
theorem dX0_choose_119 : decode cX0_choose 119 = .ok (.iconst 0, 1) := by decide +kernel
theorem dX0_choose_120 : decode cX0_choose 120 = .ok (.putfield 40, 3) := by decide +kernel
theorem dX0_choose_123 : decode cX0_choose 123 = .ok (.aload_n 0, 1) := by decide +kernel
theorem dX0_choose_124 : decode cX0_choose 124 = .ok (.iload 4, 2) := by decide +kernel
theorem dX0_choose_126 : decode cX0_choose 126 = .ok (.iload_n 2, 1) := by decide +kernel
theorem dX0_choose_127 : decode cX0_choose 127 = .ok (.iload_n 3, 1) := by decide +kernel
theorem dX0_choose_128 : decode cX0_choose 128 = .ok (.iconst 0, 1) := by decide +kernel
theorem dX0_choose_129 : decode cX0_choose 129 = .ok (.iconst 0, 1) := by decide +kernel
theorem dX0_choose_130 : decode cX0_choose 130 = .ok (.invokestatic 43, 3) := by decide +kernel
theorem dX0_choose_133 : decode cX0_choose 133 = .ok (.return_, 1) := by decide +kernel
theorem dX0_tryBelow_0 : decode cX0_tryBelow 0 = .ok (.iload 5, 2) := by decide +kernel
theorem dX0_tryBelow_2 : decode cX0_tryBelow 2 = .ok (.aload_n 0, 1) := by decide +kernel
theorem dX0_tryBelow_3 : decode cX0_tryBelow 3 = .ok (.getfield 40, 3) := by decide +kernel
theorem dX0_tryBelow_6 : decode cX0_tryBelow 6 = .ok (.if_icmp .le 15, 3) := by decide +kernel
theorem dX0_tryBelow_9 : decode cX0_tryBelow 9 = .ok (.aload_n 0, 1) := by decide +kernel
theorem dX0_tryBelow_10 : decode cX0_tryBelow 10 = .ok (.iload 5, 2) := by decide +kernel
theorem dX0_tryBelow_12 : decode cX0_tryBelow 12 = .ok (.putfield 40, 3) := by decide +kernel
theorem dX0_tryBelow_15 : decode cX0_tryBelow 15 = .ok (.aload_n 0, 1) := by decide +kernel
theorem dX0_tryBelow_16 : decode cX0_tryBelow 16 = .ok (.iload 4, 2) := by decide +kernel
theorem dX0_tryBelow_18 : decode cX0_tryBelow 18 = .ok (.putfield 37, 3) := by decide +kernel
theorem dX0_tryBelow_21 : decode cX0_tryBelow 21 = .ok (.iload_n 1, 1) := by decide +kernel
theorem dX0_tryBelow_22 : decode cX0_tryBelow 22 = .ok (.ifCond .le 23, 3) := by decide +kernel
theorem dX0_tryBelow_25 : decode cX0_tryBelow 25 = .ok (.iload_n 3, 1) := by decide +kernel
theorem dX0_tryBelow_26 : decode cX0_tryBelow 26 = .ok (.ifCond .eq 19, 3) := by decide +kernel
theorem dX0_tryBelow_29 : decode cX0_tryBelow 29 = .ok (.iload 5, 2) := by decide +kernel
theorem dX0_tryBelow_31 : decode cX0_tryBelow 31 = .ok (.aload_n 0, 1) := by decide +kernel
theorem dX0_tryBelow_32 : decode cX0_tryBelow 32 = .ok (.getfield 18, 3) := by decide +kernel
theorem dX0_tryBelow_35 : decode cX0_tryBelow 35 = .ok (.iload_n 1, 1) := by decide +kernel
theorem dX0_tryBelow_36 : decode cX0_tryBelow 36 = .ok (.iaload, 1) := by decide +kernel
theorem dX0_tryBelow_37 : decode cX0_tryBelow 37 = .ok (.iadd, 1) := by decide +kernel
theorem dX0_tryBelow_38 : decode cX0_tryBelow 38 = .ok (.aload_n 0, 1) := by decide +kernel
theorem dX0_tryBelow_39 : decode cX0_tryBelow 39 = .ok (.getfield 40, 3) := by decide +kernel
theorem dX0_tryBelow_42 : decode cX0_tryBelow 42 = .ok (.if_icmp .gt 4, 3) := by decide +kernel
theorem dX0_tryBelow_45 : decode cX0_tryBelow 45 = .ok (.return_, 1) := by decide +kernel
theorem dX0_tryBelow_46 : decode cX0_tryBelow 46 = .ok (.iload_n 1, 1) := by decide +kernel
theorem dX0_tryBelow_47 : decode cX0_tryBelow 47 = .ok (.iconst 1, 1) := by decide +kernel
theorem dX0_tryBelow_48 : decode cX0_tryBelow 48 = .ok (.isub, 1) := by decide +kernel
theorem dX0_tryBelow_49 : decode cX0_tryBelow 49 = .ok (.istore 6, 2) := by decide +kernel
theorem dX0_tryBelow_51 : decode cX0_tryBelow 51 = .ok (.aload_n 0, 1) := by decide +kernel
theorem dX0_tryBelow_52 : decode cX0_tryBelow 52 = .ok (.iload 6, 2) := by decide +kernel
theorem dX0_tryBelow_54 : decode cX0_tryBelow 54 = .ok (.iload_n 2, 1) := by decide +kernel
theorem dX0_tryBelow_55 : decode cX0_tryBelow 55 = .ok (.iload_n 3, 1) := by decide +kernel
theorem dX0_tryBelow_56 : decode cX0_tryBelow 56 = .ok (.iload 4, 2) := by decide +kernel
theorem dX0_tryBelow_58 : decode cX0_tryBelow 58 = .ok (.iload 5, 2) := by decide +kernel
theorem dX0_tryBelow_60 : decode cX0_tryBelow 60 = .ok (.invokestatic 43, 3) := by decide +kernel
theorem dX0_tryBelow_63 : decode cX0_tryBelow 63 = .ok (.aload_n 0, 1) := by decide +kernel
theorem dX0_tryBelow_64 : decode cX0_tryBelow 64 = .ok (.getfield 9, 3) := by decide +kernel
theorem dX0_tryBelow_67 : decode cX0_tryBelow 67 = .ok (.iload 6, 2) := by decide +kernel
theorem dX0_tryBelow_69 : decode cX0_tryBelow 69 = .ok (.iaload, 1) := by decide +kernel
theorem dX0_tryBelow_70 : decode cX0_tryBelow 70 = .ok (.iload_n 2, 1) := by decide +kernel
theorem dX0_tryBelow_71 : decode cX0_tryBelow 71 = .ok (.if_icmp .gt 38, 3) := by decide +kernel
theorem dX0_tryBelow_74 : decode cX0_tryBelow 74 = .ok (.aload_n 0, 1) := by decide +kernel
theorem dX0_tryBelow_75 : decode cX0_tryBelow 75 = .ok (.iload 6, 2) := by decide +kernel
theorem dX0_tryBelow_77 : decode cX0_tryBelow 77 = .ok (.iload_n 2, 1) := by decide +kernel
theorem dX0_tryBelow_78 : decode cX0_tryBelow 78 = .ok (.aload_n 0, 1) := by decide +kernel
theorem dX0_tryBelow_79 : decode cX0_tryBelow 79 = .ok (.getfield 9, 3) := by decide +kernel
theorem dX0_tryBelow_82 : decode cX0_tryBelow 82 = .ok (.iload 6, 2) := by decide +kernel
theorem dX0_tryBelow_84 : decode cX0_tryBelow 84 = .ok (.iaload, 1) := by decide +kernel
theorem dX0_tryBelow_85 : decode cX0_tryBelow 85 = .ok (.isub, 1) := by decide +kernel
theorem dX0_tryBelow_86 : decode cX0_tryBelow 86 = .ok (.iload_n 3, 1) := by decide +kernel
theorem dX0_tryBelow_87 : decode cX0_tryBelow 87 = .ok (.iconst 1, 1) := by decide +kernel
theorem dX0_tryBelow_88 : decode cX0_tryBelow 88 = .ok (.isub, 1) := by decide +kernel
theorem dX0_tryBelow_89 : decode cX0_tryBelow 89 = .ok (.iload 4, 2) := by decide +kernel
theorem dX0_tryBelow_91 : decode cX0_tryBelow 91 = .ok (.iconst 1, 1) := by decide +kernel
theorem dX0_tryBelow_92 : decode cX0_tryBelow 92 = .ok (.iload 6, 2) := by decide +kernel
theorem dX0_tryBelow_94 : decode cX0_tryBelow 94 = .ok (.ishl, 1) := by decide +kernel
theorem dX0_tryBelow_95 : decode cX0_tryBelow 95 = .ok (.ior, 1) := by decide +kernel
theorem dX0_tryBelow_96 : decode cX0_tryBelow 96 = .ok (.iload 5, 2) := by decide +kernel
theorem dX0_tryBelow_98 : decode cX0_tryBelow 98 = .ok (.aload_n 0, 1) := by decide +kernel
theorem dX0_tryBelow_99 : decode cX0_tryBelow 99 = .ok (.getfield 15, 3) := by decide +kernel
theorem dX0_tryBelow_102 : decode cX0_tryBelow 102 = .ok (.iload 6, 2) := by decide +kernel
theorem dX0_tryBelow_104 : decode cX0_tryBelow 104 = .ok (.iaload, 1) := by decide +kernel
theorem dX0_tryBelow_105 : decode cX0_tryBelow 105 = .ok (.iadd, 1) := by decide +kernel
theorem dX0_tryBelow_106 : decode cX0_tryBelow 106 = .ok (.invokestatic 43, 3) := by decide +kernel
theorem dX0_tryBelow_109 : decode cX0_tryBelow 109 = .ok (.return_, 1) := by decide +kernel
theorem dX1_init_0 : decode cX1_init 0 = .ok (.aload_n 0, 1) := by decide +kernel
theorem dX1_init_1 : decode cX1_init 1 = .ok (.invokespecial 1, 3) := by decide +kernel
theorem dX1_init_4 : decode cX1_init 4 = .ok (.aload_n 0, 1) := by decide +kernel
theorem dX1_init_5 : decode cX1_init 5 = .ok (.bipush 16, 2) := by decide +kernel
theorem dX1_init_7 : decode cX1_init 7 = .ok (.newarray .int, 2) := by decide +kernel
theorem dX1_init_9 : decode cX1_init 9 = .ok (.putfield 9, 3) := by decide +kernel
theorem dX1_init_12 : decode cX1_init 12 = .ok (.return_, 1) := by decide +kernel
theorem dX1_isOne_0 : decode cX1_isOne 0 = .ok (.iload_n 1, 1) := by decide +kernel
theorem dX1_isOne_1 : decode cX1_isOne 1 = .ok (.ifCond .eq 28, 3) := by decide +kernel
theorem dX1_isOne_4 : decode cX1_isOne 4 = .ok (.iload_n 1, 1) := by decide +kernel
theorem dX1_isOne_5 : decode cX1_isOne 5 = .ok (.iload_n 0, 1) := by decide +kernel
theorem dX1_isOne_6 : decode cX1_isOne 6 = .ok (.if_icmp .eq 23, 3) := by decide +kernel
theorem dX1_isOne_9 : decode cX1_isOne 9 = .ok (.iload_n 1, 1) := by decide +kernel
theorem dX1_isOne_10 : decode cX1_isOne 10 = .ok (.iconst 2, 1) := by decide +kernel
theorem dX1_isOne_11 : decode cX1_isOne 11 = .ok (.if_icmp .ne 8, 3) := by decide +kernel
theorem dX1_isOne_14 : decode cX1_isOne 14 = .ok (.iload_n 0, 1) := by decide +kernel
theorem dX1_isOne_15 : decode cX1_isOne 15 = .ok (.iconst 3, 1) := by decide +kernel
theorem dX1_isOne_16 : decode cX1_isOne 16 = .ok (.if_icmp .eq 13, 3) := by decide +kernel
theorem dX1_isOne_19 : decode cX1_isOne 19 = .ok (.iload_n 1, 1) := by decide +kernel
theorem dX1_isOne_20 : decode cX1_isOne 20 = .ok (.iconst 1, 1) := by decide +kernel
theorem dX1_isOne_21 : decode cX1_isOne 21 = .ok (.if_icmp .ne 12, 3) := by decide +kernel
theorem dX1_isOne_24 : decode cX1_isOne 24 = .ok (.iload_n 0, 1) := by decide +kernel
theorem dX1_isOne_25 : decode cX1_isOne 25 = .ok (.iconst 4, 1) := by decide +kernel
theorem dX1_isOne_26 : decode cX1_isOne 26 = .ok (.if_icmp .ne 7, 3) := by decide +kernel
theorem dX1_isOne_29 : decode cX1_isOne 29 = .ok (.iconst 1, 1) := by decide +kernel
theorem dX1_isOne_30 : decode cX1_isOne 30 = .ok (.goto 4, 3) := by decide +kernel
theorem dX1_isOne_33 : decode cX1_isOne 33 = .ok (.iconst 0, 1) := by decide +kernel
theorem dX1_isOne_34 : decode cX1_isOne 34 = .ok (.ireturn, 1) := by decide +kernel
theorem dX1_begins_0 : decode cX1_begins 0 = .ok (.aload_n 0, 1) := by decide +kernel
theorem dX1_begins_1 : decode cX1_begins 1 = .ok (.getfield 13, 3) := by decide +kernel
theorem dX1_begins_4 : decode cX1_begins 4 = .ok (.bipush 16, 2) := by decide +kernel
theorem dX1_begins_6 : decode cX1_begins 6 = .ok (.if_icmp .ge 23, 3) := by decide +kernel
theorem dX1_begins_9 : decode cX1_begins 9 = .ok (.aload_n 0, 1) := by decide +kernel
theorem dX1_begins_10 : decode cX1_begins 10 = .ok (.getfield 9, 3) := by decide +kernel
theorem dX1_begins_13 : decode cX1_begins 13 = .ok (.aload_n 0, 1) := by decide +kernel
theorem dX1_begins_14 : decode cX1_begins 14 = .ok (.getfield 13, 3) := by decide +kernel
theorem dX1_begins_17 : decode cX1_begins 17 = .ok (.iload_n 1, 1) := by decide +kernel
theorem dX1_begins_18 : decode cX1_begins 18 = .ok (.iastore, 1) := by decide +kernel
theorem dX1_begins_19 : decode cX1_begins 19 = .ok (.aload_n 0, 1) := by decide +kernel
theorem dX1_begins_20 : decode cX1_begins 20 = .ok (.dup, 1) := by decide +kernel
theorem dX1_begins_21 : decode cX1_begins 21 = .ok (.getfield 13, 3) := by decide +kernel
theorem dX1_begins_24 : decode cX1_begins 24 = .ok (.iconst 1, 1) := by decide +kernel
theorem dX1_begins_25 : decode cX1_begins 25 = .ok (.iadd, 1) := by decide +kernel
theorem dX1_begins_26 : decode cX1_begins 26 = .ok (.putfield 13, 3) := by decide +kernel
theorem dX1_begins_29 : decode cX1_begins 29 = .ok (.return_, 1) := by decide +kernel
theorem dX1_size_0 : decode cX1_size 0 = .ok (.aload_n 0, 1) := by decide +kernel
theorem dX1_size_1 : decode cX1_size 1 = .ok (.getfield 17, 3) := by decide +kernel
theorem dX1_size_4 : decode cX1_size 4 = .ok (.tableswitch 56 1 5 #[36, 46, 46, 41, 51], 36) := by decide +kernel
theorem dX1_size_40 : decode cX1_size 40 = .ok (.aload_n 0, 1) := by decide +kernel
theorem dX1_size_41 : decode cX1_size 41 = .ok (.invokevirtual 20, 3) := by decide +kernel
theorem dX1_size_44 : decode cX1_size 44 = .ok (.ireturn, 1) := by decide +kernel
theorem dX1_size_45 : decode cX1_size 45 = .ok (.aload_n 0, 1) := by decide +kernel
theorem dX1_size_46 : decode cX1_size 46 = .ok (.invokevirtual 24, 3) := by decide +kernel
theorem dX1_size_49 : decode cX1_size 49 = .ok (.ireturn, 1) := by decide +kernel
theorem dX1_size_50 : decode cX1_size 50 = .ok (.aload_n 0, 1) := by decide +kernel
theorem dX1_size_51 : decode cX1_size 51 = .ok (.invokevirtual 27, 3) := by decide +kernel
theorem dX1_size_54 : decode cX1_size 54 = .ok (.ireturn, 1) := by decide +kernel
theorem dX1_size_55 : decode cX1_size 55 = .ok (.aload_n 0, 1) := by decide +kernel
theorem dX1_size_56 : decode cX1_size 56 = .ok (.invokevirtual 30, 3) := by decide +kernel
theorem dX1_size_59 : decode cX1_size 59 = .ok (.ireturn, 1) := by decide +kernel
theorem dX1_size_60 : decode cX1_size 60 = .ok (.aload_n 0, 1) := by decide +kernel
theorem dX1_size_61 : decode cX1_size 61 = .ok (.invokevirtual 33, 3) := by decide +kernel
theorem dX1_size_64 : decode cX1_size 64 = .ok (.ireturn, 1) := by decide +kernel
theorem dX1_mark_0 : decode cX1_mark 0 = .ok (.aload_n 0, 1) := by decide +kernel
theorem dX1_mark_1 : decode cX1_mark 1 = .ok (.getfield 17, 3) := by decide +kernel
theorem dX1_mark_4 : decode cX1_mark 4 = .ok (.tableswitch 52 2 5 #[32, 37, 47, 42], 32) := by decide +kernel
theorem dX1_mark_36 : decode cX1_mark 36 = .ok (.aload_n 0, 1) := by decide +kernel
theorem dX1_mark_37 : decode cX1_mark 37 = .ok (.invokevirtual 36, 3) := by decide +kernel
theorem dX1_mark_40 : decode cX1_mark 40 = .ok (.ireturn, 1) := by decide +kernel
theorem dX1_mark_41 : decode cX1_mark 41 = .ok (.aload_n 0, 1) := by decide +kernel
theorem dX1_mark_42 : decode cX1_mark 42 = .ok (.invokevirtual 39, 3) := by decide +kernel
theorem dX1_mark_45 : decode cX1_mark 45 = .ok (.ireturn, 1) := by decide +kernel
theorem dX1_mark_46 : decode cX1_mark 46 = .ok (.aload_n 0, 1) := by decide +kernel
theorem dX1_mark_47 : decode cX1_mark 47 = .ok (.invokevirtual 42, 3) := by decide +kernel
theorem dX1_mark_50 : decode cX1_mark 50 = .ok (.ireturn, 1) := by decide +kernel
theorem dX1_mark_51 : decode cX1_mark 51 = .ok (.aload_n 0, 1) := by decide +kernel
theorem dX1_mark_52 : decode cX1_mark 52 = .ok (.invokevirtual 45, 3) := by decide +kernel
theorem dX1_mark_55 : decode cX1_mark 55 = .ok (.ireturn, 1) := by decide +kernel
theorem dX1_mark_56 : decode cX1_mark 56 = .ok (.aload_n 0, 1) := by decide +kernel
theorem dX1_mark_57 : decode cX1_mark 57 = .ok (.invokevirtual 48, 3) := by decide +kernel
theorem dX1_mark_60 : decode cX1_mark 60 = .ok (.ireturn, 1) := by decide +kernel
theorem dX1_size10_0 : decode cX1_size10 0 = .ok (.aload_n 0, 1) := by decide +kernel
theorem dX1_size10_1 : decode cX1_size10 1 = .ok (.bipush 10, 2) := by decide +kernel
theorem dX1_size10_3 : decode cX1_size10 3 = .ok (.invokevirtual 51, 3) := by decide +kernel
theorem dX1_size10_6 : decode cX1_size10 6 = .ok (.aload_n 0, 1) := by decide +kernel
theorem dX1_size10_7 : decode cX1_size10 7 = .ok (.getfield 55, 3) := by decide +kernel
theorem dX1_size10_10 : decode cX1_size10 10 = .ok (.ireturn, 1) := by decide +kernel
theorem dX1_size11_0 : decode cX1_size11 0 = .ok (.aload_n 0, 1) := by decide +kernel
theorem dX1_size11_1 : decode cX1_size11 1 = .ok (.bipush 11, 2) := by decide +kernel
theorem dX1_size11_3 : decode cX1_size11 3 = .ok (.invokevirtual 51, 3) := by decide +kernel
theorem dX1_size11_6 : decode cX1_size11 6 = .ok (.aload_n 0, 1) := by decide +kernel
theorem dX1_size11_7 : decode cX1_size11 7 = .ok (.invokevirtual 33, 3) := by decide +kernel
theorem dX1_size11_10 : decode cX1_size11 10 = .ok (.aload_n 0, 1) := by decide +kernel
theorem dX1_size11_11 : decode cX1_size11 11 = .ok (.getfield 58, 3) := by decide +kernel
theorem dX1_size11_14 : decode cX1_size11 14 = .ok (.iadd, 1) := by decide +kernel
theorem dX1_size11_15 : decode cX1_size11 15 = .ok (.ireturn, 1) := by decide +kernel
theorem dX1_size12_0 : decode cX1_size12 0 = .ok (.aload_n 0, 1) := by decide +kernel
theorem dX1_size12_1 : decode cX1_size12 1 = .ok (.bipush 12, 2) := by decide +kernel
theorem dX1_size12_3 : decode cX1_size12 3 = .ok (.invokevirtual 51, 3) := by decide +kernel
theorem dX1_size12_6 : decode cX1_size12 6 = .ok (.iconst 2, 1) := by decide +kernel
theorem dX1_size12_7 : decode cX1_size12 7 = .ok (.aload_n 0, 1) := by decide +kernel
theorem dX1_size12_8 : decode cX1_size12 8 = .ok (.invokevirtual 20, 3) := by decide +kernel
theorem dX1_size12_11 : decode cX1_size12 11 = .ok (.imul, 1) := by decide +kernel
theorem dX1_size12_12 : decode cX1_size12 12 = .ok (.ireturn, 1) := by decide +kernel
theorem dX1_size13_0 : decode cX1_size13 0 = .ok (.aload_n 0, 1) := by decide +kernel
theorem dX1_size13_1 : decode cX1_size13 1 = .ok (.bipush 13, 2) := by decide +kernel
theorem dX1_size13_3 : decode cX1_size13 3 = .ok (.invokevirtual 51, 3) := by decide +kernel
theorem dX1_size13_6 : decode cX1_size13 6 = .ok (.aload_n 0, 1) := by decide +kernel
theorem dX1_size13_7 : decode cX1_size13 7 = .ok (.invokevirtual 33, 3) := by decide +kernel
theorem dX1_size13_10 : decode cX1_size13 10 = .ok (.istore_n 1, 1) := by decide +kernel
theorem dX1_size13_11 : decode cX1_size13 11 = .ok (.iload_n 1, 1) := by decide +kernel
theorem dX1_size13_12 : decode cX1_size13 12 = .ok (.aload_n 0, 1) := by decide +kernel
theorem dX1_size13_13 : decode cX1_size13 13 = .ok (.getfield 17, 3) := by decide +kernel
theorem dX1_size13_16 : decode cX1_size13 16 = .ok (.iconst 3, 1) := by decide +kernel
theorem dX1_size13_17 : decode cX1_size13 17 = .ok (.if_icmp .ne 10, 3) := by decide +kernel
theorem dX1_size13_20 : decode cX1_size13 20 = .ok (.aload_n 0, 1) := by decide +kernel
theorem dX1_size13_21 : decode cX1_size13 21 = .ok (.invokevirtual 39, 3) := by decide +kernel
theorem dX1_size13_24 : decode cX1_size13 24 = .ok (.goto 7, 3) := by decide +kernel
theorem dX1_size13_27 : decode cX1_size13 27 = .ok (.aload_n 0, 1) := by decide +kernel
theorem dX1_size13_28 : decode cX1_size13 28 = .ok (.invokevirtual 36, 3) := by decide +kernel
theorem dX1_size13_31 : decode cX1_size13 31 = .ok (.isub, 1) := by decide +kernel
theorem dX1_size13_32 : decode cX1_size13 32 = .ok (.ireturn, 1) := by decide +kernel
theorem dX1_size14_0 : decode cX1_size14 0 = .ok (.aload_n 0, 1) := by decide +kernel
theorem dX1_size14_1 : decode cX1_size14 1 = .ok (.bipush 14, 2) := by decide +kernel
theorem dX1_size14_3 : decode cX1_size14 3 = .ok (.invokevirtual 51, 3) := by decide +kernel
theorem dX1_size14_6 : decode cX1_size14 6 = .ok (.aload_n 0, 1) := by decide +kernel
theorem dX1_size14_7 : decode cX1_size14 7 = .ok (.invokevirtual 33, 3) := by decide +kernel
theorem dX1_size14_10 : decode cX1_size14 10 = .ok (.ineg, 1) := by decide +kernel
theorem dX1_size14_11 : decode cX1_size14 11 = .ok (.ireturn, 1) := by decide +kernel
theorem dX1_mark20_0 : decode cX1_mark20 0 = .ok (.aload_n 0, 1) := by decide +kernel
theorem dX1_mark20_1 : decode cX1_mark20 1 = .ok (.bipush 20, 2) := by decide +kernel
theorem dX1_mark20_3 : decode cX1_mark20 3 = .ok (.invokevirtual 51, 3) := by decide +kernel
theorem dX1_mark20_6 : decode cX1_mark20 6 = .ok (.aload_n 0, 1) := by decide +kernel
theorem dX1_mark20_7 : decode cX1_mark20 7 = .ok (.getfield 61, 3) := by decide +kernel
theorem dX1_mark20_10 : decode cX1_mark20 10 = .ok (.ireturn, 1) := by decide +kernel
theorem dX1_mark21_0 : decode cX1_mark21 0 = .ok (.aload_n 0, 1) := by decide +kernel
theorem dX1_mark21_1 : decode cX1_mark21 1 = .ok (.bipush 21, 2) := by decide +kernel
theorem dX1_mark21_3 : decode cX1_mark21 3 = .ok (.invokevirtual 51, 3) := by decide +kernel
theorem dX1_mark21_6 : decode cX1_mark21 6 = .ok (.aload_n 0, 1) := by decide +kernel
theorem dX1_mark21_7 : decode cX1_mark21 7 = .ok (.invokevirtual 48, 3) := by decide +kernel
theorem dX1_mark21_10 : decode cX1_mark21 10 = .ok (.bipush 10, 2) := by decide +kernel
theorem dX1_mark21_12 : decode cX1_mark21 12 = .ok (.aload_n 0, 1) := by decide +kernel
theorem dX1_mark21_13 : decode cX1_mark21 13 = .ok (.getfield 64, 3) := by decide +kernel
theorem dX1_mark21_16 : decode cX1_mark21 16 = .ok (.imul, 1) := by decide +kernel
theorem dX1_mark21_17 : decode cX1_mark21 17 = .ok (.iadd, 1) := by decide +kernel
theorem dX1_mark21_18 : decode cX1_mark21 18 = .ok (.ireturn, 1) := by decide +kernel
theorem dX1_mark22_0 : decode cX1_mark22 0 = .ok (.aload_n 0, 1) := by decide +kernel
theorem dX1_mark22_1 : decode cX1_mark22 1 = .ok (.bipush 22, 2) := by decide +kernel
theorem dX1_mark22_3 : decode cX1_mark22 3 = .ok (.invokevirtual 51, 3) := by decide +kernel
theorem dX1_mark22_6 : decode cX1_mark22 6 = .ok (.aload_n 0, 1) := by decide +kernel
theorem dX1_mark22_7 : decode cX1_mark22 7 = .ok (.invokevirtual 36, 3) := by decide +kernel
theorem dX1_mark22_10 : decode cX1_mark22 10 = .ok (.bipush 100, 2) := by decide +kernel
theorem dX1_mark22_12 : decode cX1_mark22 12 = .ok (.iadd, 1) := by decide +kernel
theorem dX1_mark22_13 : decode cX1_mark22 13 = .ok (.ireturn, 1) := by decide +kernel
theorem dX1_mark23_0 : decode cX1_mark23 0 = .ok (.aload_n 0, 1) := by decide +kernel
theorem dX1_mark23_1 : decode cX1_mark23 1 = .ok (.bipush 23, 2) := by decide +kernel
theorem dX1_mark23_3 : decode cX1_mark23 3 = .ok (.invokevirtual 51, 3) := by decide +kernel
theorem dX1_mark23_6 : decode cX1_mark23 6 = .ok (.aload_n 0, 1) := by decide +kernel
theorem dX1_mark23_7 : decode cX1_mark23 7 = .ok (.invokevirtual 48, 3) := by decide +kernel
theorem dX1_mark23_10 : decode cX1_mark23 10 = .ok (.aload_n 0, 1) := by decide +kernel
theorem dX1_mark23_11 : decode cX1_mark23 11 = .ok (.invokevirtual 30, 3) := by decide +kernel
theorem dX1_mark23_14 : decode cX1_mark23 14 = .ok (.iadd, 1) := by decide +kernel
theorem dX1_mark23_15 : decode cX1_mark23 15 = .ok (.ireturn, 1) := by decide +kernel
theorem dX1_mark24_0 : decode cX1_mark24 0 = .ok (.aload_n 0, 1) := by decide +kernel
theorem dX1_mark24_1 : decode cX1_mark24 1 = .ok (.bipush 24, 2) := by decide +kernel
theorem dX1_mark24_3 : decode cX1_mark24 3 = .ok (.invokevirtual 51, 3) := by decide +kernel
theorem dX1_mark24_6 : decode cX1_mark24 6 = .ok (.aload_n 0, 1) := by decide +kernel
theorem dX1_mark24_7 : decode cX1_mark24 7 = .ok (.invokevirtual 48, 3) := by decide +kernel
theorem dX1_mark24_10 : decode cX1_mark24 10 = .ok (.aload_n 0, 1) := by decide +kernel
theorem dX1_mark24_11 : decode cX1_mark24 11 = .ok (.invokevirtual 24, 3) := by decide +kernel
theorem dX1_mark24_14 : decode cX1_mark24 14 = .ok (.isub, 1) := by decide +kernel
theorem dX1_mark24_15 : decode cX1_mark24 15 = .ok (.ireturn, 1) := by decide +kernel
theorem dX2_init_0 : decode cX2_init 0 = .ok (.aload_n 0, 1) := by decide +kernel
theorem dX2_init_1 : decode cX2_init 1 = .ok (.invokespecial 3, 3) := by decide +kernel
theorem dX2_init_4 : decode cX2_init 4 = .ok (.aload_n 0, 1) := by decide +kernel
theorem dX2_init_5 : decode cX2_init 5 = .ok (.bipush 21, 2) := by decide +kernel
theorem dX2_init_7 : decode cX2_init 7 = .ok (.bipush 100, 2) := by decide +kernel
theorem dX2_init_9 : decode cX2_init 9 = .ok (.multianewarray 11 2, 4) := by decide +kernel
theorem dX2_init_13 : decode cX2_init 13 = .ok (.putfield 13, 3) := by decide +kernel
theorem dX2_init_16 : decode cX2_init 16 = .ok (.return_, 1) := by decide +kernel
theorem dX2_fillTo_0 : decode cX2_fillTo 0 = .ok (.aload_n 0, 1) := by decide +kernel
theorem dX2_fillTo_1 : decode cX2_fillTo 1 = .ok (.getfield 16, 3) := by decide +kernel
theorem dX2_fillTo_4 : decode cX2_fillTo 4 = .ok (.iload_n 1, 1) := by decide +kernel
theorem dX2_fillTo_5 : decode cX2_fillTo 5 = .ok (.if_icmp .ge 89, 3) := by decide +kernel
theorem dX2_fillTo_8 : decode cX2_fillTo 8 = .ok (.aload_n 0, 1) := by decide +kernel
theorem dX2_fillTo_9 : decode cX2_fillTo 9 = .ok (.getfield 16, 3) := by decide +kernel
theorem dX2_fillTo_12 : decode cX2_fillTo 12 = .ok (.bipush 20, 2) := by decide +kernel
theorem dX2_fillTo_14 : decode cX2_fillTo 14 = .ok (.if_icmp .ge 80, 3) := by decide +kernel
theorem dX2_fillTo_17 : decode cX2_fillTo 17 = .ok (.iconst 0, 1) := by decide +kernel
theorem dX2_fillTo_18 : decode cX2_fillTo 18 = .ok (.istore_n 2, 1) := by decide +kernel
theorem dX2_fillTo_19 : decode cX2_fillTo 19 = .ok (.iload_n 2, 1) := by decide +kernel
theorem dX2_fillTo_20 : decode cX2_fillTo 20 = .ok (.bipush 100, 2) := by decide +kernel
theorem dX2_fillTo_22 : decode cX2_fillTo 22 = .ok (.if_icmp .ge 59, 3) := by decide +kernel
theorem dX2_fillTo_25 : decode cX2_fillTo 25 = .ok (.iload_n 2, 1) := by decide +kernel
theorem dX2_fillTo_26 : decode cX2_fillTo 26 = .ok (.bipush 10, 2) := by decide +kernel
theorem dX2_fillTo_28 : decode cX2_fillTo 28 = .ok (.idiv, 1) := by decide +kernel
theorem dX2_fillTo_29 : decode cX2_fillTo 29 = .ok (.istore_n 3, 1) := by decide +kernel
theorem dX2_fillTo_30 : decode cX2_fillTo 30 = .ok (.iload_n 2, 1) := by decide +kernel
theorem dX2_fillTo_31 : decode cX2_fillTo 31 = .ok (.bipush 10, 2) := by decide +kernel
theorem dX2_fillTo_33 : decode cX2_fillTo 33 = .ok (.irem, 1) := by decide +kernel
theorem dX2_fillTo_34 : decode cX2_fillTo 34 = .ok (.istore 4, 2) := by decide +kernel
theorem dX2_fillTo_36 : decode cX2_fillTo 36 = .ok (.aload_n 0, 1) := by decide +kernel
theorem dX2_fillTo_37 : decode cX2_fillTo 37 = .ok (.getfield 13, 3) := by decide +kernel
theorem dX2_fillTo_40 : decode cX2_fillTo 40 = .ok (.aload_n 0, 1) := by decide +kernel
theorem dX2_fillTo_41 : decode cX2_fillTo 41 = .ok (.getfield 16, 3) := by decide +kernel
theorem dX2_fillTo_44 : decode cX2_fillTo 44 = .ok (.iconst 1, 1) := by decide +kernel
theorem dX2_fillTo_45 : decode cX2_fillTo 45 = .ok (.iadd, 1) := by decide +kernel
theorem dX2_fillTo_46 : decode cX2_fillTo 46 = .ok (.aaload, 1) := by decide +kernel
theorem dX2_fillTo_47 : decode cX2_fillTo 47 = .ok (.iload_n 2, 1) := by decide +kernel
theorem dX2_fillTo_48 : decode cX2_fillTo 48 = .ok (.aload_n 0, 1) := by decide +kernel
theorem dX2_fillTo_49 : decode cX2_fillTo 49 = .ok (.aload_n 0, 1) := by decide +kernel
theorem dX2_fillTo_50 : decode cX2_fillTo 50 = .ok (.iload_n 3, 1) := by decide +kernel
theorem dX2_fillTo_51 : decode cX2_fillTo 51 = .ok (.iload 4, 2) := by decide +kernel
theorem dX2_fillTo_53 : decode cX2_fillTo 53 = .ok (.aload_n 0, 1) := by decide +kernel
theorem dX2_fillTo_54 : decode cX2_fillTo 54 = .ok (.getfield 16, 3) := by decide +kernel
theorem dX2_fillTo_57 : decode cX2_fillTo 57 = .ok (.iconst 1, 1) := by decide +kernel
theorem dX2_fillTo_58 : decode cX2_fillTo 58 = .ok (.iadd, 1) := by decide +kernel
theorem dX2_fillTo_59 : decode cX2_fillTo 59 = .ok (.invokevirtual 20, 3) := by decide +kernel
theorem dX2_fillTo_62 : decode cX2_fillTo 62 = .ok (.iload_n 3, 1) := by decide +kernel
theorem dX2_fillTo_63 : decode cX2_fillTo 63 = .ok (.iload 4, 2) := by decide +kernel
theorem dX2_fillTo_65 : decode cX2_fillTo 65 = .ok (.aload_n 0, 1) := by decide +kernel
theorem dX2_fillTo_66 : decode cX2_fillTo 66 = .ok (.getfield 16, 3) := by decide +kernel
theorem dX2_fillTo_69 : decode cX2_fillTo 69 = .ok (.iconst 1, 1) := by decide +kernel
theorem dX2_fillTo_70 : decode cX2_fillTo 70 = .ok (.iadd, 1) := by decide +kernel
theorem dX2_fillTo_71 : decode cX2_fillTo 71 = .ok (.invokevirtual 24, 3) := by decide +kernel
theorem dX2_fillTo_74 : decode cX2_fillTo 74 = .ok (.iastore, 1) := by decide +kernel
theorem dX2_fillTo_75 : decode cX2_fillTo 75 = .ok (.iinc 2 1, 3) := by decide +kernel
theorem dX2_fillTo_78 : decode cX2_fillTo 78 = .ok (.goto (-59), 3) := by decide +kernel
theorem dX2_fillTo_81 : decode cX2_fillTo 81 = .ok (.aload_n 0, 1) := by decide +kernel
theorem dX2_fillTo_82 : decode cX2_fillTo 82 = .ok (.dup, 1) := by decide +kernel
theorem dX2_fillTo_83 : decode cX2_fillTo 83 = .ok (.getfield 16, 3) := by decide +kernel
theorem dX2_fillTo_86 : decode cX2_fillTo 86 = .ok (.iconst 1, 1) := by decide +kernel
theorem dX2_fillTo_87 : decode cX2_fillTo 87 = .ok (.iadd, 1) := by decide +kernel
theorem dX2_fillTo_88 : decode cX2_fillTo 88 = .ok (.putfield 16, 3) := by decide +kernel
theorem dX2_fillTo_91 : decode cX2_fillTo 91 = .ok (.goto (-91), 3) := by decide +kernel
theorem dX2_fillTo_94 : decode cX2_fillTo 94 = .ok (.return_, 1) := by decide +kernel
theorem dX2_valueOf_0 : decode cX2_valueOf 0 = .ok (.aload_n 0, 1) := by decide +kernel
theorem dX2_valueOf_1 : decode cX2_valueOf 1 = .ok (.getfield 13, 3) := by decide +kernel
theorem dX2_valueOf_4 : decode cX2_valueOf 4 = .ok (.iload_n 3, 1) := by decide +kernel
theorem dX2_valueOf_5 : decode cX2_valueOf 5 = .ok (.aaload, 1) := by decide +kernel
theorem dX2_valueOf_6 : decode cX2_valueOf 6 = .ok (.iload_n 1, 1) := by decide +kernel
theorem dX2_valueOf_7 : decode cX2_valueOf 7 = .ok (.bipush 10, 2) := by decide +kernel
theorem dX2_valueOf_9 : decode cX2_valueOf 9 = .ok (.imul, 1) := by decide +kernel
theorem dX2_valueOf_10 : decode cX2_valueOf 10 = .ok (.iload_n 2, 1) := by decide +kernel
theorem dX2_valueOf_11 : decode cX2_valueOf 11 = .ok (.iadd, 1) := by decide +kernel
theorem dX2_valueOf_12 : decode cX2_valueOf 12 = .ok (.iaload, 1) := by decide +kernel
theorem dX2_valueOf_13 : decode cX2_valueOf 13 = .ok (.ireturn, 1) := by decide +kernel
theorem dX2_bestOf_0 : decode cX2_bestOf 0 = .ok (.iload_n 3, 1) := by decide +kernel
theorem dX2_bestOf_1 : decode cX2_bestOf 1 = .ok (.iconst 1, 1) := by decide +kernel
theorem dX2_bestOf_2 : decode cX2_bestOf 2 = .ok (.if_icmp .ge 8, 3) := by decide +kernel
theorem dX2_bestOf_5 : decode cX2_bestOf 5 = .ok (.ldc 28, 2) := by decide +kernel
theorem dX2_bestOf_7 : decode cX2_bestOf 7 = .ok (.goto 10, 3) := by decide +kernel
theorem dX2_bestOf_10 : decode cX2_bestOf 10 = .ok (.aload_n 0, 1) := by decide +kernel
theorem dX2_bestOf_11 : decode cX2_bestOf 11 = .ok (.iload_n 1, 1) := by decide +kernel
theorem dX2_bestOf_12 : decode cX2_bestOf 12 = .ok (.iload_n 2, 1) := by decide +kernel
theorem dX2_bestOf_13 : decode cX2_bestOf 13 = .ok (.iload_n 3, 1) := by decide +kernel
theorem dX2_bestOf_14 : decode cX2_bestOf 14 = .ok (.invokevirtual 20, 3) := by decide +kernel
theorem dX2_bestOf_17 : decode cX2_bestOf 17 = .ok (.ireturn, 1) := by decide +kernel
theorem dX2_can_0 : decode cX2_can 0 = .ok (.iload_n 1, 1) := by decide +kernel
theorem dX2_can_1 : decode cX2_can 1 = .ok (.getstatic 29, 3) := by decide +kernel
theorem dX2_can_4 : decode cX2_can 4 = .ok (.iload_n 0, 1) := by decide +kernel
theorem dX2_can_5 : decode cX2_can 5 = .ok (.iaload, 1) := by decide +kernel
theorem dX2_can_6 : decode cX2_can 6 = .ok (.if_icmp .lt 7, 3) := by decide +kernel
theorem dX2_can_9 : decode cX2_can 9 = .ok (.iconst 1, 1) := by decide +kernel
theorem dX2_can_10 : decode cX2_can 10 = .ok (.goto 4, 3) := by decide +kernel
theorem dX2_can_13 : decode cX2_can 13 = .ok (.iconst 0, 1) := by decide +kernel
theorem dX2_can_14 : decode cX2_can 14 = .ok (.ireturn, 1) := by decide +kernel
theorem dX2_breathAfter_0 : decode cX2_breathAfter 0 = .ok (.bipush 9, 2) := by decide +kernel
theorem dX2_breathAfter_2 : decode cX2_breathAfter 2 = .ok (.iload_n 1, 1) := by decide +kernel
theorem dX2_breathAfter_3 : decode cX2_breathAfter 3 = .ok (.getstatic 33, 3) := by decide +kernel
theorem dX2_breathAfter_6 : decode cX2_breathAfter 6 = .ok (.iload_n 0, 1) := by decide +kernel
theorem dX2_breathAfter_7 : decode cX2_breathAfter 7 = .ok (.iaload, 1) := by decide +kernel
theorem dX2_breathAfter_8 : decode cX2_breathAfter 8 = .ok (.iadd, 1) := by decide +kernel
theorem dX2_breathAfter_9 : decode cX2_breathAfter 9 = .ok (.invokestatic 36, 3) := by decide +kernel
theorem dX2_breathAfter_12 : decode cX2_breathAfter 12 = .ok (.ireturn, 1) := by decide +kernel
theorem dX2_bestMove_0 : decode cX2_bestMove 0 = .ok (.iconst 0, 1) := by decide +kernel
theorem dX2_bestMove_1 : decode cX2_bestMove 1 = .ok (.istore 4, 2) := by decide +kernel
theorem dX2_bestMove_3 : decode cX2_bestMove 3 = .ok (.iconst 1, 1) := by decide +kernel
theorem dX2_bestMove_4 : decode cX2_bestMove 4 = .ok (.istore 5, 2) := by decide +kernel
theorem dX2_bestMove_6 : decode cX2_bestMove 6 = .ok (.iload 5, 2) := by decide +kernel
theorem dX2_bestMove_8 : decode cX2_bestMove 8 = .ok (.iconst 3, 1) := by decide +kernel
theorem dX2_bestMove_9 : decode cX2_bestMove 9 = .ok (.if_icmp .ge 43, 3) := by decide +kernel
theorem dX2_bestMove_12 : decode cX2_bestMove 12 = .ok (.iload 5, 2) := by decide +kernel
theorem dX2_bestMove_14 : decode cX2_bestMove 14 = .ok (.iload_n 1, 1) := by decide +kernel
theorem dX2_bestMove_15 : decode cX2_bestMove 15 = .ok (.invokestatic 42, 3) := by decide +kernel
theorem dX2_bestMove_18 : decode cX2_bestMove 18 = .ok (.ifCond .eq 28, 3) := by decide +kernel
theorem dX2_bestMove_21 : decode cX2_bestMove 21 = .ok (.aload_n 0, 1) := by decide +kernel
theorem dX2_bestMove_22 : decode cX2_bestMove 22 = .ok (.iload 5, 2) := by decide +kernel
theorem dX2_bestMove_24 : decode cX2_bestMove 24 = .ok (.iload_n 1, 1) := by decide +kernel
theorem dX2_bestMove_25 : decode cX2_bestMove 25 = .ok (.iload_n 2, 1) := by decide +kernel
theorem dX2_bestMove_26 : decode cX2_bestMove 26 = .ok (.iload_n 3, 1) := by decide +kernel
theorem dX2_bestMove_27 : decode cX2_bestMove 27 = .ok (.invokevirtual 24, 3) := by decide +kernel
theorem dX2_bestMove_30 : decode cX2_bestMove 30 = .ok (.aload_n 0, 1) := by decide +kernel
theorem dX2_bestMove_31 : decode cX2_bestMove 31 = .ok (.iload 4, 2) := by decide +kernel
theorem dX2_bestMove_33 : decode cX2_bestMove 33 = .ok (.iload_n 1, 1) := by decide +kernel
theorem dX2_bestMove_34 : decode cX2_bestMove 34 = .ok (.iload_n 2, 1) := by decide +kernel
theorem dX2_bestMove_35 : decode cX2_bestMove 35 = .ok (.iload_n 3, 1) := by decide +kernel
theorem dX2_bestMove_36 : decode cX2_bestMove 36 = .ok (.invokevirtual 24, 3) := by decide +kernel
theorem dX2_bestMove_39 : decode cX2_bestMove 39 = .ok (.if_icmp .le 7, 3) := by decide +kernel
theorem dX2_bestMove_42 : decode cX2_bestMove 42 = .ok (.iload 5, 2) := by decide +kernel
theorem dX2_bestMove_44 : decode cX2_bestMove 44 = .ok (.istore 4, 2) := by decide +kernel
theorem dX2_bestMove_46 : decode cX2_bestMove 46 = .ok (.iinc 5 1, 3) := by decide +kernel
theorem dX2_bestMove_49 : decode cX2_bestMove 49 = .ok (.goto (-43), 3) := by decide +kernel
theorem dX2_bestMove_52 : decode cX2_bestMove 52 = .ok (.iload 4, 2) := by decide +kernel
theorem dX2_bestMove_54 : decode cX2_bestMove 54 = .ok (.ireturn, 1) := by decide +kernel
theorem dX2_worstOf_0 : decode cX2_worstOf 0 = .ok (.iload_n 1, 1) := by decide +kernel
theorem dX2_worstOf_1 : decode cX2_worstOf 1 = .ok (.iload_n 2, 1) := by decide +kernel
theorem dX2_worstOf_2 : decode cX2_worstOf 2 = .ok (.invokestatic 46, 3) := by decide +kernel
theorem dX2_worstOf_5 : decode cX2_worstOf 5 = .ok (.bipush 10, 2) := by decide +kernel
theorem dX2_worstOf_7 : decode cX2_worstOf 7 = .ok (.imul, 1) := by decide +kernel
theorem dX2_worstOf_8 : decode cX2_worstOf 8 = .ok (.istore 5, 2) := by decide +kernel
theorem dX2_worstOf_10 : decode cX2_worstOf 10 = .ok (.aload_n 0, 1) := by decide +kernel
theorem dX2_worstOf_11 : decode cX2_worstOf 11 = .ok (.iload_n 1, 1) := by decide +kernel
theorem dX2_worstOf_12 : decode cX2_worstOf 12 = .ok (.iconst 0, 1) := by decide +kernel
theorem dX2_worstOf_13 : decode cX2_worstOf 13 = .ok (.iload 5, 2) := by decide +kernel
theorem dX2_worstOf_15 : decode cX2_worstOf 15 = .ok (.iload_n 3, 1) := by decide +kernel
theorem dX2_worstOf_16 : decode cX2_worstOf 16 = .ok (.iload 4, 2) := by decide +kernel
theorem dX2_worstOf_18 : decode cX2_worstOf 18 = .ok (.invokevirtual 49, 3) := by decide +kernel
theorem dX2_worstOf_21 : decode cX2_worstOf 21 = .ok (.istore 6, 2) := by decide +kernel
theorem dX2_worstOf_23 : decode cX2_worstOf 23 = .ok (.iconst 1, 1) := by decide +kernel
theorem dX2_worstOf_24 : decode cX2_worstOf 24 = .ok (.istore 7, 2) := by decide +kernel
theorem dX2_worstOf_26 : decode cX2_worstOf 26 = .ok (.iload 7, 2) := by decide +kernel
theorem dX2_worstOf_28 : decode cX2_worstOf 28 = .ok (.iconst 3, 1) := by decide +kernel
theorem dX2_worstOf_29 : decode cX2_worstOf 29 = .ok (.if_icmp .ge 37, 3) := by decide +kernel
theorem dX2_worstOf_32 : decode cX2_worstOf 32 = .ok (.iload 7, 2) := by decide +kernel
theorem dX2_worstOf_34 : decode cX2_worstOf 34 = .ok (.iload_n 3, 1) := by decide +kernel
theorem dX2_worstOf_35 : decode cX2_worstOf 35 = .ok (.invokestatic 42, 3) := by decide +kernel
theorem dX2_worstOf_38 : decode cX2_worstOf 38 = .ok (.ifCond .eq 22, 3) := by decide +kernel
theorem dX2_worstOf_41 : decode cX2_worstOf 41 = .ok (.iload 6, 2) := by decide +kernel
theorem dX2_worstOf_43 : decode cX2_worstOf 43 = .ok (.aload_n 0, 1) := by decide +kernel
theorem dX2_worstOf_44 : decode cX2_worstOf 44 = .ok (.iload_n 1, 1) := by decide +kernel
theorem dX2_worstOf_45 : decode cX2_worstOf 45 = .ok (.iload 7, 2) := by decide +kernel
theorem dX2_worstOf_47 : decode cX2_worstOf 47 = .ok (.iload 5, 2) := by decide +kernel
theorem dX2_worstOf_49 : decode cX2_worstOf 49 = .ok (.iload_n 3, 1) := by decide +kernel
theorem dX2_worstOf_50 : decode cX2_worstOf 50 = .ok (.iload 4, 2) := by decide +kernel
theorem dX2_worstOf_52 : decode cX2_worstOf 52 = .ok (.invokevirtual 49, 3) := by decide +kernel
theorem dX2_worstOf_55 : decode cX2_worstOf 55 = .ok (.invokestatic 36, 3) := by decide +kernel
theorem dX2_worstOf_58 : decode cX2_worstOf 58 = .ok (.istore 6, 2) := by decide +kernel
theorem dX2_worstOf_60 : decode cX2_worstOf 60 = .ok (.iinc 7 1, 3) := by decide +kernel
theorem dX2_worstOf_63 : decode cX2_worstOf 63 = .ok (.goto (-37), 3) := by decide +kernel
theorem dX2_worstOf_66 : decode cX2_worstOf 66 = .ok (.iload 6, 2) := by decide +kernel
theorem dX2_worstOf_68 : decode cX2_worstOf 68 = .ok (.ireturn, 1) := by decide +kernel
theorem dX2_gainBy_0 : decode cX2_gainBy 0 = .ok (.getstatic 53, 3) := by decide +kernel
theorem dX2_gainBy_3 : decode cX2_gainBy 3 = .ok (.iload_n 1, 1) := by decide +kernel
theorem dX2_gainBy_4 : decode cX2_gainBy 4 = .ok (.iconst 3, 1) := by decide +kernel
theorem dX2_gainBy_5 : decode cX2_gainBy 5 = .ok (.imul, 1) := by decide +kernel
theorem dX2_gainBy_6 : decode cX2_gainBy 6 = .ok (.iload_n 2, 1) := by decide +kernel
theorem dX2_gainBy_7 : decode cX2_gainBy 7 = .ok (.iadd, 1) := by decide +kernel
theorem dX2_gainBy_8 : decode cX2_gainBy 8 = .ok (.iaload, 1) := by decide +kernel
theorem dX2_gainBy_9 : decode cX2_gainBy 9 = .ok (.aload_n 0, 1) := by decide +kernel
theorem dX2_gainBy_10 : decode cX2_gainBy 10 = .ok (.getfield 13, 3) := by decide +kernel
theorem dX2_gainBy_13 : decode cX2_gainBy 13 = .ok (.iload 5, 2) := by decide +kernel
theorem dX2_gainBy_15 : decode cX2_gainBy 15 = .ok (.iconst 1, 1) := by decide +kernel
theorem dX2_gainBy_16 : decode cX2_gainBy 16 = .ok (.isub, 1) := by decide +kernel
theorem dX2_gainBy_17 : decode cX2_gainBy 17 = .ok (.aaload, 1) := by decide +kernel
theorem dX2_gainBy_18 : decode cX2_gainBy 18 = .ok (.iload_n 3, 1) := by decide +kernel
theorem dX2_gainBy_19 : decode cX2_gainBy 19 = .ok (.iload_n 2, 1) := by decide +kernel
theorem dX2_gainBy_20 : decode cX2_gainBy 20 = .ok (.iload 4, 2) := by decide +kernel
theorem dX2_gainBy_22 : decode cX2_gainBy 22 = .ok (.invokestatic 46, 3) := by decide +kernel
theorem dX2_gainBy_25 : decode cX2_gainBy 25 = .ok (.iadd, 1) := by decide +kernel
theorem dX2_gainBy_26 : decode cX2_gainBy 26 = .ok (.iaload, 1) := by decide +kernel
theorem dX2_gainBy_27 : decode cX2_gainBy 27 = .ok (.iadd, 1) := by decide +kernel
theorem dX2_gainBy_28 : decode cX2_gainBy 28 = .ok (.ireturn, 1) := by decide +kernel
theorem dX3_init_0 : decode cX3_init 0 = .ok (.aload_n 0, 1) := by decide +kernel
theorem dX3_init_1 : decode cX3_init 1 = .ok (.invokespecial 3, 3) := by decide +kernel
theorem dX3_init_4 : decode cX3_init 4 = .ok (.aload_n 0, 1) := by decide +kernel
theorem dX3_init_5 : decode cX3_init 5 = .ok (.iconst 2, 1) := by decide +kernel
theorem dX3_init_6 : decode cX3_init 6 = .ok (.anewarray 9, 3) := by decide +kernel
theorem dX3_init_9 : decode cX3_init 9 = .ok (.dup, 1) := by decide +kernel
theorem dX3_init_10 : decode cX3_init 10 = .ok (.iconst 0, 1) := by decide +kernel
theorem dX3_init_11 : decode cX3_init 11 = .ok (.new 9, 3) := by decide +kernel
theorem dX3_init_14 : decode cX3_init 14 = .ok (.dup, 1) := by decide +kernel
theorem dX3_init_15 : decode cX3_init 15 = .ok (.invokespecial 11, 3) := by decide +kernel
theorem dX3_init_18 : decode cX3_init 18 = .ok (.aastore, 1) := by decide +kernel
theorem dX3_init_19 : decode cX3_init 19 = .ok (.dup, 1) := by decide +kernel
theorem dX3_init_20 : decode cX3_init 20 = .ok (.iconst 1, 1) := by decide +kernel
theorem dX3_init_21 : decode cX3_init 21 = .ok (.new 9, 3) := by decide +kernel
theorem dX3_init_24 : decode cX3_init 24 = .ok (.dup, 1) := by decide +kernel
theorem dX3_init_25 : decode cX3_init 25 = .ok (.invokespecial 11, 3) := by decide +kernel
theorem dX3_init_28 : decode cX3_init 28 = .ok (.aastore, 1) := by decide +kernel
theorem dX3_init_29 : decode cX3_init 29 = .ok (.putfield 12, 3) := by decide +kernel
theorem dX3_init_32 : decode cX3_init 32 = .ok (.aload_n 0, 1) := by decide +kernel
theorem dX3_init_33 : decode cX3_init 33 = .ok (.iconst 3, 1) := by decide +kernel
theorem dX3_init_34 : decode cX3_init 34 = .ok (.newarray .int, 2) := by decide +kernel
theorem dX3_init_36 : decode cX3_init 36 = .ok (.putfield 18, 3) := by decide +kernel
theorem dX3_init_39 : decode cX3_init 39 = .ok (.return_, 1) := by decide +kernel
theorem dX3_become_0 : decode cX3_become 0 = .ok (.aload_n 0, 1) := by decide +kernel
theorem dX3_become_1 : decode cX3_become 1 = .ok (.aload_n 1, 1) := by decide +kernel
theorem dX3_become_2 : decode cX3_become 2 = .ok (.getfield 22, 3) := by decide +kernel
theorem dX3_become_5 : decode cX3_become 5 = .ok (.putfield 22, 3) := by decide +kernel
theorem dX3_become_8 : decode cX3_become 8 = .ok (.aload_n 1, 1) := by decide +kernel
theorem dX3_become_9 : decode cX3_become 9 = .ok (.getfield 18, 3) := by decide +kernel
theorem dX3_become_12 : decode cX3_become 12 = .ok (.iconst 0, 1) := by decide +kernel
theorem dX3_become_13 : decode cX3_become 13 = .ok (.aload_n 0, 1) := by decide +kernel
theorem dX3_become_14 : decode cX3_become 14 = .ok (.getfield 18, 3) := by decide +kernel
theorem dX3_become_17 : decode cX3_become 17 = .ok (.iconst 0, 1) := by decide +kernel
theorem dX3_become_18 : decode cX3_become 18 = .ok (.iconst 3, 1) := by decide +kernel
theorem dX3_become_19 : decode cX3_become 19 = .ok (.invokestatic 26, 3) := by decide +kernel
theorem dX3_become_22 : decode cX3_become 22 = .ok (.aload_n 0, 1) := by decide +kernel
theorem dX3_become_23 : decode cX3_become 23 = .ok (.getfield 12, 3) := by decide +kernel
theorem dX3_become_26 : decode cX3_become 26 = .ok (.iconst 0, 1) := by decide +kernel
theorem dX3_become_27 : decode cX3_become 27 = .ok (.aaload, 1) := by decide +kernel
theorem dX3_become_28 : decode cX3_become 28 = .ok (.aload_n 1, 1) := by decide +kernel
theorem dX3_become_29 : decode cX3_become 29 = .ok (.getfield 12, 3) := by decide +kernel
theorem dX3_become_32 : decode cX3_become 32 = .ok (.iconst 0, 1) := by decide +kernel
theorem dX3_become_33 : decode cX3_become 33 = .ok (.aaload, 1) := by decide +kernel
theorem dX3_become_34 : decode cX3_become 34 = .ok (.invokevirtual 32, 3) := by decide +kernel
theorem dX3_become_37 : decode cX3_become 37 = .ok (.aload_n 0, 1) := by decide +kernel
theorem dX3_become_38 : decode cX3_become 38 = .ok (.getfield 12, 3) := by decide +kernel
theorem dX3_become_41 : decode cX3_become 41 = .ok (.iconst 1, 1) := by decide +kernel
theorem dX3_become_42 : decode cX3_become 42 = .ok (.aaload, 1) := by decide +kernel
theorem dX3_become_43 : decode cX3_become 43 = .ok (.aload_n 1, 1) := by decide +kernel
theorem dX3_become_44 : decode cX3_become 44 = .ok (.getfield 12, 3) := by decide +kernel
theorem dX3_become_47 : decode cX3_become 47 = .ok (.iconst 1, 1) := by decide +kernel
theorem dX3_become_48 : decode cX3_become 48 = .ok (.aaload, 1) := by decide +kernel
theorem dX3_become_49 : decode cX3_become 49 = .ok (.invokevirtual 32, 3) := by decide +kernel
theorem dX3_become_52 : decode cX3_become 52 = .ok (.return_, 1) := by decide +kernel
theorem dX3_pullers_0 : decode cX3_pullers 0 = .ok (.aload_n 0, 1) := by decide +kernel
theorem dX3_pullers_1 : decode cX3_pullers 1 = .ok (.getfield 12, 3) := by decide +kernel
theorem dX3_pullers_4 : decode cX3_pullers 4 = .ok (.iconst 0, 1) := by decide +kernel
theorem dX3_pullers_5 : decode cX3_pullers 5 = .ok (.aaload, 1) := by decide +kernel
theorem dX3_pullers_6 : decode cX3_pullers 6 = .ok (.getfield 36, 3) := by decide +kernel
theorem dX3_pullers_9 : decode cX3_pullers 9 = .ok (.aload_n 0, 1) := by decide +kernel
theorem dX3_pullers_10 : decode cX3_pullers 10 = .ok (.getfield 12, 3) := by decide +kernel
theorem dX3_pullers_13 : decode cX3_pullers 13 = .ok (.iconst 1, 1) := by decide +kernel
theorem dX3_pullers_14 : decode cX3_pullers 14 = .ok (.aaload, 1) := by decide +kernel
theorem dX3_pullers_15 : decode cX3_pullers 15 = .ok (.getfield 36, 3) := by decide +kernel
theorem dX3_pullers_18 : decode cX3_pullers 18 = .ok (.iadd, 1) := by decide +kernel
theorem dX3_pullers_19 : decode cX3_pullers 19 = .ok (.ireturn, 1) := by decide +kernel
theorem dX4_init_0 : decode cX4_init 0 = .ok (.aload_n 0, 1) := by decide +kernel
theorem dX4_init_1 : decode cX4_init 1 = .ok (.invokespecial 3, 3) := by decide +kernel
theorem dX4_init_4 : decode cX4_init 4 = .ok (.aload_n 0, 1) := by decide +kernel
theorem dX4_init_5 : decode cX4_init 5 = .ok (.sipush 256, 3) := by decide +kernel
theorem dX4_init_8 : decode cX4_init 8 = .ok (.newarray .int, 2) := by decide +kernel
theorem dX4_init_10 : decode cX4_init 10 = .ok (.putfield 9, 3) := by decide +kernel
theorem dX4_init_13 : decode cX4_init 13 = .ok (.return_, 1) := by decide +kernel
theorem dX4_weigh_0 : decode cX4_weigh 0 = .ok (.iconst 1, 1) := by decide +kernel
theorem dX4_weigh_1 : decode cX4_weigh 1 = .ok (.aload_n 1, 1) := by decide +kernel
theorem dX4_weigh_2 : decode cX4_weigh 2 = .ok (.getfield 15, 3) := by decide +kernel
theorem dX4_weigh_5 : decode cX4_weigh 5 = .ok (.ishl, 1) := by decide +kernel
theorem dX4_weigh_6 : decode cX4_weigh 6 = .ok (.iconst 1, 1) := by decide +kernel
theorem dX4_weigh_7 : decode cX4_weigh 7 = .ok (.isub, 1) := by decide +kernel
theorem dX4_weigh_8 : decode cX4_weigh 8 = .ok (.istore_n 2, 1) := by decide +kernel
theorem dX4_weigh_9 : decode cX4_weigh 9 = .ok (.aload_n 0, 1) := by decide +kernel
theorem dX4_weigh_10 : decode cX4_weigh 10 = .ok (.getfield 9, 3) := by decide +kernel
theorem dX4_weigh_13 : decode cX4_weigh 13 = .ok (.iload_n 2, 1) := by decide +kernel
theorem dX4_weigh_14 : decode cX4_weigh 14 = .ok (.iconst 0, 1) := by decide +kernel
theorem dX4_weigh_15 : decode cX4_weigh 15 = .ok (.iastore, 1) := by decide +kernel
theorem dX4_weigh_16 : decode cX4_weigh 16 = .ok (.iload_n 2, 1) := by decide +kernel
theorem dX4_weigh_17 : decode cX4_weigh 17 = .ok (.iconst 1, 1) := by decide +kernel
theorem dX4_weigh_18 : decode cX4_weigh 18 = .ok (.isub, 1) := by decide +kernel
theorem dX4_weigh_19 : decode cX4_weigh 19 = .ok (.istore_n 3, 1) := by decide +kernel
theorem dX4_weigh_20 : decode cX4_weigh 20 = .ok (.iload_n 3, 1) := by decide +kernel
theorem dX4_weigh_21 : decode cX4_weigh 21 = .ok (.ifCond .lt 27, 3) := by decide +kernel
theorem dX4_weigh_24 : decode cX4_weigh 24 = .ok (.aload_n 0, 1) := by decide +kernel
theorem dX4_weigh_25 : decode cX4_weigh 25 = .ok (.getfield 9, 3) := by decide +kernel
theorem dX4_weigh_28 : decode cX4_weigh 28 = .ok (.iload_n 3, 1) := by decide +kernel
theorem dX4_weigh_29 : decode cX4_weigh 29 = .ok (.aload_n 0, 1) := by decide +kernel
theorem dX4_weigh_30 : decode cX4_weigh 30 = .ok (.aload_n 1, 1) := by decide +kernel
theorem dX4_weigh_31 : decode cX4_weigh 31 = .ok (.iload_n 3, 1) := by decide +kernel
theorem dX4_weigh_32 : decode cX4_weigh 32 = .ok (.aload_n 0, 1) := by decide +kernel
theorem dX4_weigh_33 : decode cX4_weigh 33 = .ok (.aload_n 1, 1) := by decide +kernel
theorem dX4_weigh_34 : decode cX4_weigh 34 = .ok (.iload_n 3, 1) := by decide +kernel
theorem dX4_weigh_35 : decode cX4_weigh 35 = .ok (.invokevirtual 21, 3) := by decide +kernel
theorem dX4_weigh_38 : decode cX4_weigh 38 = .ok (.invokevirtual 25, 3) := by decide +kernel
theorem dX4_weigh_41 : decode cX4_weigh 41 = .ok (.iastore, 1) := by decide +kernel
theorem dX4_weigh_42 : decode cX4_weigh 42 = .ok (.iinc 3 (-1), 3) := by decide +kernel
theorem dX4_weigh_45 : decode cX4_weigh 45 = .ok (.goto (-25), 3) := by decide +kernel
theorem dX4_weigh_48 : decode cX4_weigh 48 = .ok (.return_, 1) := by decide +kernel
theorem dX4_bestNext_0 : decode cX4_bestNext 0 = .ok (.iconst (-1), 1) := by decide +kernel
theorem dX4_bestNext_1 : decode cX4_bestNext 1 = .ok (.istore_n 3, 1) := by decide +kernel
theorem dX4_bestNext_2 : decode cX4_bestNext 2 = .ok (.iconst 0, 1) := by decide +kernel
theorem dX4_bestNext_3 : decode cX4_bestNext 3 = .ok (.istore 4, 2) := by decide +kernel
theorem dX4_bestNext_5 : decode cX4_bestNext 5 = .ok (.iload 4, 2) := by decide +kernel
theorem dX4_bestNext_7 : decode cX4_bestNext 7 = .ok (.aload_n 1, 1) := by decide +kernel
theorem dX4_bestNext_8 : decode cX4_bestNext 8 = .ok (.getfield 15, 3) := by decide +kernel
theorem dX4_bestNext_11 : decode cX4_bestNext 11 = .ok (.if_icmp .ge 43, 3) := by decide +kernel
theorem dX4_bestNext_14 : decode cX4_bestNext 14 = .ok (.iload_n 2, 1) := by decide +kernel
theorem dX4_bestNext_15 : decode cX4_bestNext 15 = .ok (.iload 4, 2) := by decide +kernel
theorem dX4_bestNext_17 : decode cX4_bestNext 17 = .ok (.ishr, 1) := by decide +kernel
theorem dX4_bestNext_18 : decode cX4_bestNext 18 = .ok (.iconst 1, 1) := by decide +kernel
theorem dX4_bestNext_19 : decode cX4_bestNext 19 = .ok (.iand, 1) := by decide +kernel
theorem dX4_bestNext_20 : decode cX4_bestNext 20 = .ok (.ifCond .ne 28, 3) := by decide +kernel
theorem dX4_bestNext_23 : decode cX4_bestNext 23 = .ok (.iload_n 3, 1) := by decide +kernel
theorem dX4_bestNext_24 : decode cX4_bestNext 24 = .ok (.ifCond .lt 21, 3) := by decide +kernel
theorem dX4_bestNext_27 : decode cX4_bestNext 27 = .ok (.aload_n 0, 1) := by decide +kernel
theorem dX4_bestNext_28 : decode cX4_bestNext 28 = .ok (.aload_n 1, 1) := by decide +kernel
theorem dX4_bestNext_29 : decode cX4_bestNext 29 = .ok (.iload_n 2, 1) := by decide +kernel
theorem dX4_bestNext_30 : decode cX4_bestNext 30 = .ok (.iload 4, 2) := by decide +kernel
theorem dX4_bestNext_32 : decode cX4_bestNext 32 = .ok (.invokevirtual 25, 3) := by decide +kernel
theorem dX4_bestNext_35 : decode cX4_bestNext 35 = .ok (.aload_n 0, 1) := by decide +kernel
theorem dX4_bestNext_36 : decode cX4_bestNext 36 = .ok (.aload_n 1, 1) := by decide +kernel
theorem dX4_bestNext_37 : decode cX4_bestNext 37 = .ok (.iload_n 2, 1) := by decide +kernel
theorem dX4_bestNext_38 : decode cX4_bestNext 38 = .ok (.iload_n 3, 1) := by decide +kernel
theorem dX4_bestNext_39 : decode cX4_bestNext 39 = .ok (.invokevirtual 25, 3) := by decide +kernel
theorem dX4_bestNext_42 : decode cX4_bestNext 42 = .ok (.if_icmp .le 6, 3) := by decide +kernel
theorem dX4_bestNext_45 : decode cX4_bestNext 45 = .ok (.iload 4, 2) := by decide +kernel
theorem dX4_bestNext_47 : decode cX4_bestNext 47 = .ok (.istore_n 3, 1) := by decide +kernel
theorem dX4_bestNext_48 : decode cX4_bestNext 48 = .ok (.iinc 4 1, 3) := by decide +kernel
theorem dX4_bestNext_51 : decode cX4_bestNext 51 = .ok (.goto (-46), 3) := by decide +kernel
theorem dX4_bestNext_54 : decode cX4_bestNext 54 = .ok (.iload_n 3, 1) := by decide +kernel
theorem dX4_bestNext_55 : decode cX4_bestNext 55 = .ok (.ireturn, 1) := by decide +kernel
theorem dX4_worthWith_0 : decode cX4_worthWith 0 = .ok (.iload_n 3, 1) := by decide +kernel
theorem dX4_worthWith_1 : decode cX4_worthWith 1 = .ok (.ifCond .ge 5, 3) := by decide +kernel
theorem dX4_worthWith_4 : decode cX4_worthWith 4 = .ok (.iconst 0, 1) := by decide +kernel
theorem dX4_worthWith_5 : decode cX4_worthWith 5 = .ok (.ireturn, 1) := by decide +kernel
theorem dX4_worthWith_6 : decode cX4_worthWith 6 = .ok (.iload_n 2, 1) := by decide +kernel
theorem dX4_worthWith_7 : decode cX4_worthWith 7 = .ok (.invokestatic 29, 3) := by decide +kernel
theorem dX4_worthWith_10 : decode cX4_worthWith 10 = .ok (.istore 4, 2) := by decide +kernel
theorem dX4_worthWith_12 : decode cX4_worthWith 12 = .ok (.bipush 100, 2) := by decide +kernel
theorem dX4_worthWith_14 : decode cX4_worthWith 14 = .ok (.iconst 3, 1) := by decide +kernel
theorem dX4_worthWith_15 : decode cX4_worthWith 15 = .ok (.iload 4, 2) := by decide +kernel
theorem dX4_worthWith_17 : decode cX4_worthWith 17 = .ok (.iconst 4, 1) := by decide +kernel
theorem dX4_worthWith_18 : decode cX4_worthWith 18 = .ok (.isub, 1) := by decide +kernel
theorem dX4_worthWith_19 : decode cX4_worthWith 19 = .ok (.invokestatic 35, 3) := by decide +kernel
theorem dX4_worthWith_22 : decode cX4_worthWith 22 = .ok (.imul, 1) := by decide +kernel
theorem dX4_worthWith_23 : decode cX4_worthWith 23 = .ok (.isub, 1) := by decide +kernel
theorem dX4_worthWith_24 : decode cX4_worthWith 24 = .ok (.iload 4, 2) := by decide +kernel
theorem dX4_worthWith_26 : decode cX4_worthWith 26 = .ok (.aload_n 1, 1) := by decide +kernel
theorem dX4_worthWith_27 : decode cX4_worthWith 27 = .ok (.getfield 15, 3) := by decide +kernel
theorem dX4_worthWith_30 : decode cX4_worthWith 30 = .ok (.iconst 1, 1) := by decide +kernel
theorem dX4_worthWith_31 : decode cX4_worthWith 31 = .ok (.isub, 1) := by decide +kernel
theorem dX4_worthWith_32 : decode cX4_worthWith 32 = .ok (.if_icmp .ne 8, 3) := by decide +kernel
theorem dX4_worthWith_35 : decode cX4_worthWith 35 = .ok (.bipush 10, 2) := by decide +kernel
theorem dX4_worthWith_37 : decode cX4_worthWith 37 = .ok (.goto 4, 3) := by decide +kernel
theorem dX4_worthWith_40 : decode cX4_worthWith 40 = .ok (.iconst 0, 1) := by decide +kernel
theorem dX4_worthWith_41 : decode cX4_worthWith 41 = .ok (.iadd, 1) := by decide +kernel
theorem dX4_worthWith_42 : decode cX4_worthWith 42 = .ok (.istore 5, 2) := by decide +kernel
theorem dX4_worthWith_44 : decode cX4_worthWith 44 = .ok (.aload_n 1, 1) := by decide +kernel
theorem dX4_worthWith_45 : decode cX4_worthWith 45 = .ok (.getfield 40, 3) := by decide +kernel
theorem dX4_worthWith_48 : decode cX4_worthWith 48 = .ok (.iload_n 3, 1) := by decide +kernel
theorem dX4_worthWith_49 : decode cX4_worthWith 49 = .ok (.aaload, 1) := by decide +kernel
theorem dX4_worthWith_50 : decode cX4_worthWith 50 = .ok (.iconst 2, 1) := by decide +kernel
theorem dX4_worthWith_51 : decode cX4_worthWith 51 = .ok (.iaload, 1) := by decide +kernel
theorem dX4_worthWith_52 : decode cX4_worthWith 52 = .ok (.iload 5, 2) := by decide +kernel
theorem dX4_worthWith_54 : decode cX4_worthWith 54 = .ok (.imul, 1) := by decide +kernel
theorem dX4_worthWith_55 : decode cX4_worthWith 55 = .ok (.aload_n 1, 1) := by decide +kernel
theorem dX4_worthWith_56 : decode cX4_worthWith 56 = .ok (.getfield 40, 3) := by decide +kernel
theorem dX4_worthWith_59 : decode cX4_worthWith 59 = .ok (.iload_n 3, 1) := by decide +kernel
theorem dX4_worthWith_60 : decode cX4_worthWith 60 = .ok (.aaload, 1) := by decide +kernel
theorem dX4_worthWith_61 : decode cX4_worthWith 61 = .ok (.iconst 0, 1) := by decide +kernel
theorem dX4_worthWith_62 : decode cX4_worthWith 62 = .ok (.iaload, 1) := by decide +kernel
theorem dX4_worthWith_63 : decode cX4_worthWith 63 = .ok (.iload 4, 2) := by decide +kernel
theorem dX4_worthWith_65 : decode cX4_worthWith 65 = .ok (.imul, 1) := by decide +kernel
theorem dX4_worthWith_66 : decode cX4_worthWith 66 = .ok (.iadd, 1) := by decide +kernel
theorem dX4_worthWith_67 : decode cX4_worthWith 67 = .ok (.aload_n 0, 1) := by decide +kernel
theorem dX4_worthWith_68 : decode cX4_worthWith 68 = .ok (.getfield 9, 3) := by decide +kernel
theorem dX4_worthWith_71 : decode cX4_worthWith 71 = .ok (.iload_n 2, 1) := by decide +kernel
theorem dX4_worthWith_72 : decode cX4_worthWith 72 = .ok (.iconst 1, 1) := by decide +kernel
theorem dX4_worthWith_73 : decode cX4_worthWith 73 = .ok (.iload_n 3, 1) := by decide +kernel
theorem dX4_worthWith_74 : decode cX4_worthWith 74 = .ok (.ishl, 1) := by decide +kernel
theorem dX4_worthWith_75 : decode cX4_worthWith 75 = .ok (.ior, 1) := by decide +kernel
theorem dX4_worthWith_76 : decode cX4_worthWith 76 = .ok (.iaload, 1) := by decide +kernel
theorem dX4_worthWith_77 : decode cX4_worthWith 77 = .ok (.iadd, 1) := by decide +kernel
theorem dX4_worthWith_78 : decode cX4_worthWith 78 = .ok (.ireturn, 1) := by decide +kernel
theorem dX4_pullerAt_0 : decode cX4_pullerAt 0 = .ok (.iconst 0, 1) := by decide +kernel
theorem dX4_pullerAt_1 : decode cX4_pullerAt 1 = .ok (.istore_n 3, 1) := by decide +kernel
theorem dX4_pullerAt_2 : decode cX4_pullerAt 2 = .ok (.iconst 0, 1) := by decide +kernel
theorem dX4_pullerAt_3 : decode cX4_pullerAt 3 = .ok (.istore 4, 2) := by decide +kernel
theorem dX4_pullerAt_5 : decode cX4_pullerAt 5 = .ok (.iload 4, 2) := by decide +kernel
theorem dX4_pullerAt_7 : decode cX4_pullerAt 7 = .ok (.iload_n 2, 1) := by decide +kernel
theorem dX4_pullerAt_8 : decode cX4_pullerAt 8 = .ok (.if_icmp .ge 20, 3) := by decide +kernel
theorem dX4_pullerAt_11 : decode cX4_pullerAt 11 = .ok (.iload_n 3, 1) := by decide +kernel
theorem dX4_pullerAt_12 : decode cX4_pullerAt 12 = .ok (.iconst 1, 1) := by decide +kernel
theorem dX4_pullerAt_13 : decode cX4_pullerAt 13 = .ok (.aload_n 0, 1) := by decide +kernel
theorem dX4_pullerAt_14 : decode cX4_pullerAt 14 = .ok (.aload_n 1, 1) := by decide +kernel
theorem dX4_pullerAt_15 : decode cX4_pullerAt 15 = .ok (.iload_n 3, 1) := by decide +kernel
theorem dX4_pullerAt_16 : decode cX4_pullerAt 16 = .ok (.invokevirtual 21, 3) := by decide +kernel
theorem dX4_pullerAt_19 : decode cX4_pullerAt 19 = .ok (.ishl, 1) := by decide +kernel
theorem dX4_pullerAt_20 : decode cX4_pullerAt 20 = .ok (.ior, 1) := by decide +kernel
theorem dX4_pullerAt_21 : decode cX4_pullerAt 21 = .ok (.istore_n 3, 1) := by decide +kernel
theorem dX4_pullerAt_22 : decode cX4_pullerAt 22 = .ok (.iinc 4 1, 3) := by decide +kernel
theorem dX4_pullerAt_25 : decode cX4_pullerAt 25 = .ok (.goto (-20), 3) := by decide +kernel
theorem dX4_pullerAt_28 : decode cX4_pullerAt 28 = .ok (.aload_n 0, 1) := by decide +kernel
theorem dX4_pullerAt_29 : decode cX4_pullerAt 29 = .ok (.aload_n 1, 1) := by decide +kernel
theorem dX4_pullerAt_30 : decode cX4_pullerAt 30 = .ok (.iload_n 3, 1) := by decide +kernel
theorem dX4_pullerAt_31 : decode cX4_pullerAt 31 = .ok (.invokevirtual 21, 3) := by decide +kernel
theorem dX4_pullerAt_34 : decode cX4_pullerAt 34 = .ok (.ireturn, 1) := by decide +kernel
theorem dX5_init_0 : decode cX5_init 0 = .ok (.aload_n 0, 1) := by decide +kernel
theorem dX5_init_1 : decode cX5_init 1 = .ok (.invokespecial 3, 3) := by decide +kernel
theorem dX5_init_4 : decode cX5_init 4 = .ok (.aload_n 0, 1) := by decide +kernel
theorem dX5_init_5 : decode cX5_init 5 = .ok (.sipush 700, 3) := by decide +kernel
theorem dX5_init_8 : decode cX5_init 8 = .ok (.newarray .byte, 2) := by decide +kernel
theorem dX5_init_10 : decode cX5_init 10 = .ok (.putfield 9, 3) := by decide +kernel
theorem dX5_init_13 : decode cX5_init 13 = .ok (.return_, 1) := by decide +kernel
theorem dX5_append_0 : decode cX5_append 0 = .ok (.iload_n 3, 1) := by decide +kernel
theorem dX5_append_1 : decode cX5_append 1 = .ok (.sipush 700, 3) := by decide +kernel
theorem dX5_append_4 : decode cX5_append 4 = .ok (.aload_n 0, 1) := by decide +kernel
theorem dX5_append_5 : decode cX5_append 5 = .ok (.getfield 15, 3) := by decide +kernel
theorem dX5_append_8 : decode cX5_append 8 = .ok (.isub, 1) := by decide +kernel
theorem dX5_append_9 : decode cX5_append 9 = .ok (.if_icmp .le 5, 3) := by decide +kernel
theorem dX5_append_12 : decode cX5_append 12 = .ok (.iconst 0, 1) := by decide +kernel
theorem dX5_append_13 : decode cX5_append 13 = .ok (.ireturn, 1) := by decide +kernel
theorem dX5_append_14 : decode cX5_append 14 = .ok (.iload_n 3, 1) := by decide +kernel
theorem dX5_append_15 : decode cX5_append 15 = .ok (.iconst 1, 1) := by decide +kernel
theorem dX5_append_16 : decode cX5_append 16 = .ok (.isub, 1) := by decide +kernel
theorem dX5_append_17 : decode cX5_append 17 = .ok (.istore 4, 2) := by decide +kernel
theorem dX5_append_19 : decode cX5_append 19 = .ok (.iload 4, 2) := by decide +kernel
theorem dX5_append_21 : decode cX5_append 21 = .ok (.ifCond .lt 37, 3) := by decide +kernel
theorem dX5_append_24 : decode cX5_append 24 = .ok (.aload_n 0, 1) := by decide +kernel
theorem dX5_append_25 : decode cX5_append 25 = .ok (.getfield 9, 3) := by decide +kernel
theorem dX5_append_28 : decode cX5_append 28 = .ok (.aload_n 0, 1) := by decide +kernel
theorem dX5_append_29 : decode cX5_append 29 = .ok (.getfield 15, 3) := by decide +kernel
theorem dX5_append_32 : decode cX5_append 32 = .ok (.lload_n 1, 1) := by decide +kernel
theorem dX5_append_33 : decode cX5_append 33 = .ok (.bipush 8, 2) := by decide +kernel
theorem dX5_append_35 : decode cX5_append 35 = .ok (.iload 4, 2) := by decide +kernel
theorem dX5_append_37 : decode cX5_append 37 = .ok (.imul, 1) := by decide +kernel
theorem dX5_append_38 : decode cX5_append 38 = .ok (.lshr, 1) := by decide +kernel
theorem dX5_append_39 : decode cX5_append 39 = .ok (.l2i, 1) := by decide +kernel
theorem dX5_append_40 : decode cX5_append 40 = .ok (.i2b, 1) := by decide +kernel
theorem dX5_append_41 : decode cX5_append 41 = .ok (.bastore, 1) := by decide +kernel
theorem dX5_append_42 : decode cX5_append 42 = .ok (.aload_n 0, 1) := by decide +kernel
theorem dX5_append_43 : decode cX5_append 43 = .ok (.dup, 1) := by decide +kernel
theorem dX5_append_44 : decode cX5_append 44 = .ok (.getfield 15, 3) := by decide +kernel
theorem dX5_append_47 : decode cX5_append 47 = .ok (.iconst 1, 1) := by decide +kernel
theorem dX5_append_48 : decode cX5_append 48 = .ok (.iadd, 1) := by decide +kernel
theorem dX5_append_49 : decode cX5_append 49 = .ok (.putfield 15, 3) := by decide +kernel
theorem dX5_append_52 : decode cX5_append 52 = .ok (.iinc 4 (-1), 3) := by decide +kernel
theorem dX5_append_55 : decode cX5_append 55 = .ok (.goto (-36), 3) := by decide +kernel
theorem dX5_append_58 : decode cX5_append 58 = .ok (.iconst 1, 1) := by decide +kernel
theorem dX5_append_59 : decode cX5_append 59 = .ok (.ireturn, 1) := by decide +kernel
theorem dX5_readText_0 : decode cX5_readText 0 = .ok (.aload_n 0, 1) := by decide +kernel
theorem dX5_readText_1 : decode cX5_readText 1 = .ok (.iconst 0, 1) := by decide +kernel
theorem dX5_readText_2 : decode cX5_readText 2 = .ok (.putfield 19, 3) := by decide +kernel
theorem dX5_readText_5 : decode cX5_readText 5 = .ok (.aload_n 0, 1) := by decide +kernel
theorem dX5_readText_6 : decode cX5_readText 6 = .ok (.invokevirtual 22, 3) := by decide +kernel
theorem dX5_readText_9 : decode cX5_readText 9 = .ok (.aload_n 1, 1) := by decide +kernel
theorem dX5_readText_10 : decode cX5_readText 10 = .ok (.iconst 1, 1) := by decide +kernel
theorem dX5_readText_11 : decode cX5_readText 11 = .ok (.putfield 25, 3) := by decide +kernel
theorem dX5_readText_14 : decode cX5_readText 14 = .ok (.iconst 0, 1) := by decide +kernel
theorem dX5_readText_15 : decode cX5_readText 15 = .ok (.istore_n 2, 1) := by decide +kernel
theorem dX5_readText_16 : decode cX5_readText 16 = .ok (.iload_n 2, 1) := by decide +kernel
theorem dX5_readText_17 : decode cX5_readText 17 = .ok (.iconst 2, 1) := by decide +kernel
theorem dX5_readText_18 : decode cX5_readText 18 = .ok (.if_icmp .ge 44, 3) := by decide +kernel
theorem dX5_readText_21 : decode cX5_readText 21 = .ok (.aload_n 0, 1) := by decide +kernel
theorem dX5_readText_22 : decode cX5_readText 22 = .ok (.invokevirtual 31, 3) := by decide +kernel
theorem dX5_readText_25 : decode cX5_readText 25 = .ok (.ifCond .eq 29, 3) := by decide +kernel
theorem dX5_readText_28 : decode cX5_readText 28 = .ok (.aload_n 0, 1) := by decide +kernel
theorem dX5_readText_29 : decode cX5_readText 29 = .ok (.aload_n 1, 1) := by decide +kernel
theorem dX5_readText_30 : decode cX5_readText 30 = .ok (.getfield 35, 3) := by decide +kernel
theorem dX5_readText_33 : decode cX5_readText 33 = .ok (.iload_n 2, 1) := by decide +kernel
theorem dX5_readText_34 : decode cX5_readText 34 = .ok (.aaload, 1) := by decide +kernel
theorem dX5_readText_35 : decode cX5_readText 35 = .ok (.invokevirtual 39, 3) := by decide +kernel
theorem dX5_readText_38 : decode cX5_readText 38 = .ok (.ifCond .eq 16, 3) := by decide +kernel
theorem dX5_readText_41 : decode cX5_readText 41 = .ok (.aload_n 0, 1) := by decide +kernel
theorem dX5_readText_42 : decode cX5_readText 42 = .ok (.aload_n 1, 1) := by decide +kernel
theorem dX5_readText_43 : decode cX5_readText 43 = .ok (.getfield 35, 3) := by decide +kernel
theorem dX5_readText_46 : decode cX5_readText 46 = .ok (.iload_n 2, 1) := by decide +kernel
theorem dX5_readText_47 : decode cX5_readText 47 = .ok (.aaload, 1) := by decide +kernel
theorem dX5_readText_48 : decode cX5_readText 48 = .ok (.invokevirtual 43, 3) := by decide +kernel
theorem dX5_readText_51 : decode cX5_readText 51 = .ok (.ifCond .ne 5, 3) := by decide +kernel
theorem dX5_readText_54 : decode cX5_readText 54 = .ok (.iconst 0, 1) := by decide +kernel
theorem dX5_readText_55 : decode cX5_readText 55 = .ok (.ireturn, 1) := by decide +kernel
theorem dX5_readText_56 : decode cX5_readText 56 = .ok (.iinc 2 1, 3) := by decide +kernel
theorem dX5_readText_59 : decode cX5_readText 59 = .ok (.goto (-43), 3) := by decide +kernel
theorem dX5_readText_62 : decode cX5_readText 62 = .ok (.aload_n 0, 1) := by decide +kernel
theorem dX5_readText_63 : decode cX5_readText 63 = .ok (.aload_n 1, 1) := by decide +kernel
theorem dX5_readText_64 : decode cX5_readText 64 = .ok (.invokevirtual 46, 3) := by decide +kernel
theorem dX5_readText_67 : decode cX5_readText 67 = .ok (.ifCond .eq 22, 3) := by decide +kernel
theorem dX5_readText_70 : decode cX5_readText 70 = .ok (.aload_n 0, 1) := by decide +kernel
theorem dX5_readText_71 : decode cX5_readText 71 = .ok (.getfield 50, 3) := by decide +kernel
theorem dX5_readText_74 : decode cX5_readText 74 = .ok (.ifCond .eq 11, 3) := by decide +kernel
theorem dX5_readText_77 : decode cX5_readText 77 = .ok (.aload_n 0, 1) := by decide +kernel
theorem dX5_readText_78 : decode cX5_readText 78 = .ok (.iconst 1, 1) := by decide +kernel
theorem dX5_readText_79 : decode cX5_readText 79 = .ok (.invokevirtual 53, 3) := by decide +kernel
theorem dX5_readText_82 : decode cX5_readText 82 = .ok (.ifCond .eq 7, 3) := by decide +kernel
theorem dX5_readText_85 : decode cX5_readText 85 = .ok (.iconst 1, 1) := by decide +kernel
theorem dX5_readText_86 : decode cX5_readText 86 = .ok (.goto 4, 3) := by decide +kernel
theorem dX5_readText_89 : decode cX5_readText 89 = .ok (.iconst 0, 1) := by decide +kernel
theorem dX5_readText_90 : decode cX5_readText 90 = .ok (.ireturn, 1) := by decide +kernel
theorem dX5_readHead_0 : decode cX5_readHead 0 = .ok (.aload_n 0, 1) := by decide +kernel
theorem dX5_readHead_1 : decode cX5_readHead 1 = .ok (.ldc 57, 2) := by decide +kernel
theorem dX5_readHead_3 : decode cX5_readHead 3 = .ok (.invokevirtual 59, 3) := by decide +kernel
theorem dX5_readHead_6 : decode cX5_readHead 6 = .ok (.ifCond .eq 31, 3) := by decide +kernel
theorem dX5_readHead_9 : decode cX5_readHead 9 = .ok (.aload_n 0, 1) := by decide +kernel
theorem dX5_readHead_10 : decode cX5_readHead 10 = .ok (.invokevirtual 63, 3) := by decide +kernel
theorem dX5_readHead_13 : decode cX5_readHead 13 = .ok (.ifCond .eq 24, 3) := by decide +kernel
theorem dX5_readHead_16 : decode cX5_readHead 16 = .ok (.aload_n 0, 1) := by decide +kernel
theorem dX5_readHead_17 : decode cX5_readHead 17 = .ok (.ldc 66, 2) := by decide +kernel
theorem dX5_readHead_19 : decode cX5_readHead 19 = .ok (.invokevirtual 68, 3) := by decide +kernel
theorem dX5_readHead_22 : decode cX5_readHead 22 = .ok (.ifCond .ne 11, 3) := by decide +kernel
theorem dX5_readHead_25 : decode cX5_readHead 25 = .ok (.aload_n 0, 1) := by decide +kernel
theorem dX5_readHead_26 : decode cX5_readHead 26 = .ok (.iconst 1, 1) := by decide +kernel
theorem dX5_readHead_27 : decode cX5_readHead 27 = .ok (.invokevirtual 53, 3) := by decide +kernel
theorem dX5_readHead_30 : decode cX5_readHead 30 = .ok (.ifCond .eq 7, 3) := by decide +kernel
theorem dX5_readHead_33 : decode cX5_readHead 33 = .ok (.iconst 1, 1) := by decide +kernel
theorem dX5_readHead_34 : decode cX5_readHead 34 = .ok (.goto 4, 3) := by decide +kernel
theorem dX5_readHead_37 : decode cX5_readHead 37 = .ok (.iconst 0, 1) := by decide +kernel
theorem dX5_readHead_38 : decode cX5_readHead 38 = .ok (.ireturn, 1) := by decide +kernel
theorem dX5_readPullers_0 : decode cX5_readPullers 0 = .ok (.aload_n 1, 1) := by decide +kernel
theorem dX5_readPullers_1 : decode cX5_readPullers 1 = .ok (.iconst 0, 1) := by decide +kernel
theorem dX5_readPullers_2 : decode cX5_readPullers 2 = .ok (.putfield 71, 3) := by decide +kernel
theorem dX5_readPullers_5 : decode cX5_readPullers 5 = .ok (.iconst 0, 1) := by decide +kernel
theorem dX5_readPullers_6 : decode cX5_readPullers 6 = .ok (.istore_n 2, 1) := by decide +kernel
theorem dX5_readPullers_7 : decode cX5_readPullers 7 = .ok (.iload_n 2, 1) := by decide +kernel
theorem dX5_readPullers_8 : decode cX5_readPullers 8 = .ok (.bipush 8, 2) := by decide +kernel
theorem dX5_readPullers_10 : decode cX5_readPullers 10 = .ok (.if_icmp .gt 132, 3) := by decide +kernel
theorem dX5_readPullers_13 : decode cX5_readPullers 13 = .ok (.aload_n 0, 1) := by decide +kernel
theorem dX5_readPullers_14 : decode cX5_readPullers 14 = .ok (.ldc 66, 2) := by decide +kernel
theorem dX5_readPullers_16 : decode cX5_readPullers 16 = .ok (.invokevirtual 68, 3) := by decide +kernel
theorem dX5_readPullers_19 : decode cX5_readPullers 19 = .ok (.ifCond .eq 123, 3) := by decide +kernel
theorem dX5_readPullers_22 : decode cX5_readPullers 22 = .ok (.iload_n 2, 1) := by decide +kernel
theorem dX5_readPullers_23 : decode cX5_readPullers 23 = .ok (.bipush 8, 2) := by decide +kernel
theorem dX5_readPullers_25 : decode cX5_readPullers 25 = .ok (.if_icmp .ne 9, 3) := by decide +kernel
theorem dX5_readPullers_28 : decode cX5_readPullers 28 = .ok (.aload_n 0, 1) := by decide +kernel
theorem dX5_readPullers_29 : decode cX5_readPullers 29 = .ok (.iconst 3, 1) := by decide +kernel
theorem dX5_readPullers_30 : decode cX5_readPullers 30 = .ok (.invokevirtual 53, 3) := by decide +kernel
theorem dX5_readPullers_33 : decode cX5_readPullers 33 = .ok (.ireturn, 1) := by decide +kernel
theorem dX5_readPullers_34 : decode cX5_readPullers 34 = .ok (.aload_n 0, 1) := by decide +kernel
theorem dX5_readPullers_35 : decode cX5_readPullers 35 = .ok (.invokevirtual 22, 3) := by decide +kernel
theorem dX5_readPullers_38 : decode cX5_readPullers 38 = .ok (.aload_n 1, 1) := by decide +kernel
theorem dX5_readPullers_39 : decode cX5_readPullers 39 = .ok (.getfield 76, 3) := by decide +kernel
theorem dX5_readPullers_42 : decode cX5_readPullers 42 = .ok (.iload_n 2, 1) := by decide +kernel
theorem dX5_readPullers_43 : decode cX5_readPullers 43 = .ok (.aaload, 1) := by decide +kernel
theorem dX5_readPullers_44 : decode cX5_readPullers 44 = .ok (.astore_n 3, 1) := by decide +kernel
theorem dX5_readPullers_45 : decode cX5_readPullers 45 = .ok (.aload_n 0, 1) := by decide +kernel
theorem dX5_readPullers_46 : decode cX5_readPullers 46 = .ok (.aload_n 3, 1) := by decide +kernel
theorem dX5_readPullers_47 : decode cX5_readPullers 47 = .ok (.iconst 0, 1) := by decide +kernel
theorem dX5_readPullers_48 : decode cX5_readPullers 48 = .ok (.bipush 40, 2) := by decide +kernel
theorem dX5_readPullers_50 : decode cX5_readPullers 50 = .ok (.sipush 150, 3) := by decide +kernel
theorem dX5_readPullers_53 : decode cX5_readPullers 53 = .ok (.invokevirtual 80, 3) := by decide +kernel
theorem dX5_readPullers_56 : decode cX5_readPullers 56 = .ok (.ifCond .eq 63, 3) := by decide +kernel
theorem dX5_readPullers_59 : decode cX5_readPullers 59 = .ok (.aload_n 0, 1) := by decide +kernel
theorem dX5_readPullers_60 : decode cX5_readPullers 60 = .ok (.aload_n 3, 1) := by decide +kernel
theorem dX5_readPullers_61 : decode cX5_readPullers 61 = .ok (.iconst 1, 1) := by decide +kernel
theorem dX5_readPullers_62 : decode cX5_readPullers 62 = .ok (.iconst 1, 1) := by decide +kernel
theorem dX5_readPullers_63 : decode cX5_readPullers 63 = .ok (.sipush 200, 3) := by decide +kernel
theorem dX5_readPullers_66 : decode cX5_readPullers 66 = .ok (.invokevirtual 80, 3) := by decide +kernel
theorem dX5_readPullers_69 : decode cX5_readPullers 69 = .ok (.ifCond .eq 50, 3) := by decide +kernel
theorem dX5_readPullers_72 : decode cX5_readPullers 72 = .ok (.aload_n 0, 1) := by decide +kernel
theorem dX5_readPullers_73 : decode cX5_readPullers 73 = .ok (.aload_n 3, 1) := by decide +kernel
theorem dX5_readPullers_74 : decode cX5_readPullers 74 = .ok (.iconst 2, 1) := by decide +kernel
theorem dX5_readPullers_75 : decode cX5_readPullers 75 = .ok (.iconst 1, 1) := by decide +kernel
theorem dX5_readPullers_76 : decode cX5_readPullers 76 = .ok (.sipush 400, 3) := by decide +kernel
theorem dX5_readPullers_79 : decode cX5_readPullers 79 = .ok (.invokevirtual 80, 3) := by decide +kernel
theorem dX5_readPullers_82 : decode cX5_readPullers 82 = .ok (.ifCond .eq 37, 3) := by decide +kernel
theorem dX5_readPullers_85 : decode cX5_readPullers 85 = .ok (.aload_n 0, 1) := by decide +kernel
theorem dX5_readPullers_86 : decode cX5_readPullers 86 = .ok (.aload_n 3, 1) := by decide +kernel
theorem dX5_readPullers_87 : decode cX5_readPullers 87 = .ok (.iconst 3, 1) := by decide +kernel
theorem dX5_readPullers_88 : decode cX5_readPullers 88 = .ok (.iconst 1, 1) := by decide +kernel
theorem dX5_readPullers_89 : decode cX5_readPullers 89 = .ok (.bipush 60, 2) := by decide +kernel
theorem dX5_readPullers_91 : decode cX5_readPullers 91 = .ok (.invokevirtual 80, 3) := by decide +kernel
theorem dX5_readPullers_94 : decode cX5_readPullers 94 = .ok (.ifCond .eq 25, 3) := by decide +kernel
theorem dX5_readPullers_97 : decode cX5_readPullers 97 = .ok (.aload_n 0, 1) := by decide +kernel
theorem dX5_readPullers_98 : decode cX5_readPullers 98 = .ok (.aload_n 3, 1) := by decide +kernel
theorem dX5_readPullers_99 : decode cX5_readPullers 99 = .ok (.iconst 4, 1) := by decide +kernel
theorem dX5_readPullers_100 : decode cX5_readPullers 100 = .ok (.iconst 0, 1) := by decide +kernel
theorem dX5_readPullers_101 : decode cX5_readPullers 101 = .ok (.iconst 5, 1) := by decide +kernel
theorem dX5_readPullers_102 : decode cX5_readPullers 102 = .ok (.invokevirtual 80, 3) := by decide +kernel
theorem dX5_readPullers_105 : decode cX5_readPullers 105 = .ok (.ifCond .eq 14, 3) := by decide +kernel
theorem dX5_readPullers_108 : decode cX5_readPullers 108 = .ok (.aload_n 0, 1) := by decide +kernel
theorem dX5_readPullers_109 : decode cX5_readPullers 109 = .ok (.invokevirtual 63, 3) := by decide +kernel
theorem dX5_readPullers_112 : decode cX5_readPullers 112 = .ok (.ifCond .eq 7, 3) := by decide +kernel
theorem dX5_readPullers_115 : decode cX5_readPullers 115 = .ok (.iconst 1, 1) := by decide +kernel
theorem dX5_readPullers_116 : decode cX5_readPullers 116 = .ok (.goto 4, 3) := by decide +kernel
theorem dX5_readPullers_119 : decode cX5_readPullers 119 = .ok (.iconst 0, 1) := by decide +kernel
theorem dX5_readPullers_120 : decode cX5_readPullers 120 = .ok (.istore 4, 2) := by decide +kernel
theorem dX5_readPullers_122 : decode cX5_readPullers 122 = .ok (.iload 4, 2) := by decide +kernel
theorem dX5_readPullers_124 : decode cX5_readPullers 124 = .ok (.ifCond .ne 5, 3) := by decide +kernel
theorem dX5_readPullers_127 : decode cX5_readPullers 127 = .ok (.iconst 0, 1) := by decide +kernel
theorem dX5_readPullers_128 : decode cX5_readPullers 128 = .ok (.ireturn, 1) := by decide +kernel
theorem dX5_readPullers_129 : decode cX5_readPullers 129 = .ok (.aload_n 1, 1) := by decide +kernel
theorem dX5_readPullers_130 : decode cX5_readPullers 130 = .ok (.iload_n 2, 1) := by decide +kernel
theorem dX5_readPullers_131 : decode cX5_readPullers 131 = .ok (.iconst 1, 1) := by decide +kernel
theorem dX5_readPullers_132 : decode cX5_readPullers 132 = .ok (.iadd, 1) := by decide +kernel
theorem dX5_readPullers_133 : decode cX5_readPullers 133 = .ok (.putfield 71, 3) := by decide +kernel
theorem dX5_readPullers_136 : decode cX5_readPullers 136 = .ok (.iinc 2 1, 3) := by decide +kernel
theorem dX5_readPullers_139 : decode cX5_readPullers 139 = .ok (.goto (-132), 3) := by decide +kernel
theorem dX5_readPullers_142 : decode cX5_readPullers 142 = .ok (.iconst 1, 1) := by decide +kernel
theorem dX5_readPullers_143 : decode cX5_readPullers 143 = .ok (.ireturn, 1) := by decide +kernel
theorem dX5_readRules_0 : decode cX5_readRules 0 = .ok (.aload_n 1, 1) := by decide +kernel
theorem dX5_readRules_1 : decode cX5_readRules 1 = .ok (.iconst 0, 1) := by decide +kernel
theorem dX5_readRules_2 : decode cX5_readRules 2 = .ok (.putfield 84, 3) := by decide +kernel
theorem dX5_readRules_5 : decode cX5_readRules 5 = .ok (.iconst 0, 1) := by decide +kernel
theorem dX5_readRules_6 : decode cX5_readRules 6 = .ok (.istore_n 2, 1) := by decide +kernel
theorem dX5_readRules_7 : decode cX5_readRules 7 = .ok (.iload_n 2, 1) := by decide +kernel
theorem dX5_readRules_8 : decode cX5_readRules 8 = .ok (.bipush 6, 2) := by decide +kernel
theorem dX5_readRules_10 : decode cX5_readRules 10 = .ok (.if_icmp .gt 134, 3) := by decide +kernel
theorem dX5_readRules_13 : decode cX5_readRules 13 = .ok (.aload_n 0, 1) := by decide +kernel
theorem dX5_readRules_14 : decode cX5_readRules 14 = .ok (.ldc 87, 2) := by decide +kernel
theorem dX5_readRules_16 : decode cX5_readRules 16 = .ok (.invokevirtual 68, 3) := by decide +kernel
theorem dX5_readRules_19 : decode cX5_readRules 19 = .ok (.ifCond .eq 125, 3) := by decide +kernel
theorem dX5_readRules_22 : decode cX5_readRules 22 = .ok (.iload_n 2, 1) := by decide +kernel
theorem dX5_readRules_23 : decode cX5_readRules 23 = .ok (.bipush 6, 2) := by decide +kernel
theorem dX5_readRules_25 : decode cX5_readRules 25 = .ok (.if_icmp .ne 9, 3) := by decide +kernel
theorem dX5_readRules_28 : decode cX5_readRules 28 = .ok (.aload_n 0, 1) := by decide +kernel
theorem dX5_readRules_29 : decode cX5_readRules 29 = .ok (.iconst 3, 1) := by decide +kernel
theorem dX5_readRules_30 : decode cX5_readRules 30 = .ok (.invokevirtual 53, 3) := by decide +kernel
theorem dX5_readRules_33 : decode cX5_readRules 33 = .ok (.ireturn, 1) := by decide +kernel
theorem dX5_readRules_34 : decode cX5_readRules 34 = .ok (.aload_n 0, 1) := by decide +kernel
theorem dX5_readRules_35 : decode cX5_readRules 35 = .ok (.invokevirtual 22, 3) := by decide +kernel
theorem dX5_readRules_38 : decode cX5_readRules 38 = .ok (.aload_n 1, 1) := by decide +kernel
theorem dX5_readRules_39 : decode cX5_readRules 39 = .ok (.getfield 89, 3) := by decide +kernel
theorem dX5_readRules_42 : decode cX5_readRules 42 = .ok (.iload_n 2, 1) := by decide +kernel
theorem dX5_readRules_43 : decode cX5_readRules 43 = .ok (.aaload, 1) := by decide +kernel
theorem dX5_readRules_44 : decode cX5_readRules 44 = .ok (.astore_n 3, 1) := by decide +kernel
theorem dX5_readRules_45 : decode cX5_readRules 45 = .ok (.aload_n 0, 1) := by decide +kernel
theorem dX5_readRules_46 : decode cX5_readRules 46 = .ok (.aload_n 3, 1) := by decide +kernel
theorem dX5_readRules_47 : decode cX5_readRules 47 = .ok (.iconst 0, 1) := by decide +kernel
theorem dX5_readRules_48 : decode cX5_readRules 48 = .ok (.ldc 94, 2) := by decide +kernel
theorem dX5_readRules_50 : decode cX5_readRules 50 = .ok (.ldc 96, 2) := by decide +kernel
theorem dX5_readRules_52 : decode cX5_readRules 52 = .ok (.ldc 98, 2) := by decide +kernel
theorem dX5_readRules_54 : decode cX5_readRules 54 = .ok (.ldc 100, 2) := by decide +kernel
theorem dX5_readRules_56 : decode cX5_readRules 56 = .ok (.invokevirtual 102, 3) := by decide +kernel
theorem dX5_readRules_59 : decode cX5_readRules 59 = .ok (.ifCond .eq 62, 3) := by decide +kernel
theorem dX5_readRules_62 : decode cX5_readRules 62 = .ok (.aload_n 0, 1) := by decide +kernel
theorem dX5_readRules_63 : decode cX5_readRules 63 = .ok (.aload_n 3, 1) := by decide +kernel
theorem dX5_readRules_64 : decode cX5_readRules 64 = .ok (.iconst 1, 1) := by decide +kernel
theorem dX5_readRules_65 : decode cX5_readRules 65 = .ok (.ldc 106, 2) := by decide +kernel
theorem dX5_readRules_67 : decode cX5_readRules 67 = .ok (.ldc 108, 2) := by decide +kernel
theorem dX5_readRules_69 : decode cX5_readRules 69 = .ok (.ldc 110, 2) := by decide +kernel
theorem dX5_readRules_71 : decode cX5_readRules 71 = .ok (.ldc 110, 2) := by decide +kernel
theorem dX5_readRules_73 : decode cX5_readRules 73 = .ok (.invokevirtual 102, 3) := by decide +kernel
theorem dX5_readRules_76 : decode cX5_readRules 76 = .ok (.ifCond .eq 45, 3) := by decide +kernel
theorem dX5_readRules_79 : decode cX5_readRules 79 = .ok (.aload_n 0, 1) := by decide +kernel
theorem dX5_readRules_80 : decode cX5_readRules 80 = .ok (.aload_n 3, 1) := by decide +kernel
theorem dX5_readRules_81 : decode cX5_readRules 81 = .ok (.iconst 2, 1) := by decide +kernel
theorem dX5_readRules_82 : decode cX5_readRules 82 = .ok (.bipush (-99), 2) := by decide +kernel
theorem dX5_readRules_84 : decode cX5_readRules 84 = .ok (.sipush 999, 3) := by decide +kernel
theorem dX5_readRules_87 : decode cX5_readRules 87 = .ok (.invokevirtual 80, 3) := by decide +kernel
theorem dX5_readRules_90 : decode cX5_readRules 90 = .ok (.ifCond .eq 31, 3) := by decide +kernel
theorem dX5_readRules_93 : decode cX5_readRules 93 = .ok (.aload_n 0, 1) := by decide +kernel
theorem dX5_readRules_94 : decode cX5_readRules 94 = .ok (.aload_n 3, 1) := by decide +kernel
theorem dX5_readRules_95 : decode cX5_readRules 95 = .ok (.iconst 3, 1) := by decide +kernel
theorem dX5_readRules_96 : decode cX5_readRules 96 = .ok (.ldc 112, 2) := by decide +kernel
theorem dX5_readRules_98 : decode cX5_readRules 98 = .ok (.ldc 114, 2) := by decide +kernel
theorem dX5_readRules_100 : decode cX5_readRules 100 = .ok (.ldc 116, 2) := by decide +kernel
theorem dX5_readRules_102 : decode cX5_readRules 102 = .ok (.ldc 118, 2) := by decide +kernel
theorem dX5_readRules_104 : decode cX5_readRules 104 = .ok (.invokevirtual 102, 3) := by decide +kernel
theorem dX5_readRules_107 : decode cX5_readRules 107 = .ok (.ifCond .eq 14, 3) := by decide +kernel
theorem dX5_readRules_110 : decode cX5_readRules 110 = .ok (.aload_n 0, 1) := by decide +kernel
theorem dX5_readRules_111 : decode cX5_readRules 111 = .ok (.invokevirtual 63, 3) := by decide +kernel
theorem dX5_readRules_114 : decode cX5_readRules 114 = .ok (.ifCond .eq 7, 3) := by decide +kernel
theorem dX5_readRules_117 : decode cX5_readRules 117 = .ok (.iconst 1, 1) := by decide +kernel
theorem dX5_readRules_118 : decode cX5_readRules 118 = .ok (.goto 4, 3) := by decide +kernel
theorem dX5_readRules_121 : decode cX5_readRules 121 = .ok (.iconst 0, 1) := by decide +kernel
theorem dX5_readRules_122 : decode cX5_readRules 122 = .ok (.istore 4, 2) := by decide +kernel
theorem dX5_readRules_124 : decode cX5_readRules 124 = .ok (.iload 4, 2) := by decide +kernel
theorem dX5_readRules_126 : decode cX5_readRules 126 = .ok (.ifCond .ne 5, 3) := by decide +kernel
theorem dX5_readRules_129 : decode cX5_readRules 129 = .ok (.iconst 0, 1) := by decide +kernel
theorem dX5_readRules_130 : decode cX5_readRules 130 = .ok (.ireturn, 1) := by decide +kernel
theorem dX5_readRules_131 : decode cX5_readRules 131 = .ok (.aload_n 1, 1) := by decide +kernel
theorem dX5_readRules_132 : decode cX5_readRules 132 = .ok (.iload_n 2, 1) := by decide +kernel
theorem dX5_readRules_133 : decode cX5_readRules 133 = .ok (.iconst 1, 1) := by decide +kernel
theorem dX5_readRules_134 : decode cX5_readRules 134 = .ok (.iadd, 1) := by decide +kernel
theorem dX5_readRules_135 : decode cX5_readRules 135 = .ok (.putfield 84, 3) := by decide +kernel
theorem dX5_readRules_138 : decode cX5_readRules 138 = .ok (.iinc 2 1, 3) := by decide +kernel
theorem dX5_readRules_141 : decode cX5_readRules 141 = .ok (.goto (-134), 3) := by decide +kernel
theorem dX5_readRules_144 : decode cX5_readRules 144 = .ok (.iconst 1, 1) := by decide +kernel
theorem dX5_readRules_145 : decode cX5_readRules 145 = .ok (.ireturn, 1) := by decide +kernel
theorem dX5_readGround_0 : decode cX5_readGround 0 = .ok (.aload_n 1, 1) := by decide +kernel
theorem dX5_readGround_1 : decode cX5_readGround 1 = .ok (.getfield 120, 3) := by decide +kernel
theorem dX5_readGround_4 : decode cX5_readGround 4 = .ok (.iconst 0, 1) := by decide +kernel
theorem dX5_readGround_5 : decode cX5_readGround 5 = .ok (.bipush 100, 2) := by decide +kernel
theorem dX5_readGround_7 : decode cX5_readGround 7 = .ok (.iastore, 1) := by decide +kernel
theorem dX5_readGround_8 : decode cX5_readGround 8 = .ok (.aload_n 1, 1) := by decide +kernel
theorem dX5_readGround_9 : decode cX5_readGround 9 = .ok (.getfield 120, 3) := by decide +kernel
theorem dX5_readGround_12 : decode cX5_readGround 12 = .ok (.iconst 1, 1) := by decide +kernel
theorem dX5_readGround_13 : decode cX5_readGround 13 = .ok (.iconst 0, 1) := by decide +kernel
theorem dX5_readGround_14 : decode cX5_readGround 14 = .ok (.iastore, 1) := by decide +kernel
theorem dX5_readGround_15 : decode cX5_readGround 15 = .ok (.aload_n 1, 1) := by decide +kernel
theorem dX5_readGround_16 : decode cX5_readGround 16 = .ok (.getfield 120, 3) := by decide +kernel
theorem dX5_readGround_19 : decode cX5_readGround 19 = .ok (.iconst 2, 1) := by decide +kernel
theorem dX5_readGround_20 : decode cX5_readGround 20 = .ok (.bipush 20, 2) := by decide +kernel
theorem dX5_readGround_22 : decode cX5_readGround 22 = .ok (.iastore, 1) := by decide +kernel
theorem dX5_readGround_23 : decode cX5_readGround 23 = .ok (.aload_n 0, 1) := by decide +kernel
theorem dX5_readGround_24 : decode cX5_readGround 24 = .ok (.ldc 124, 2) := by decide +kernel
theorem dX5_readGround_26 : decode cX5_readGround 26 = .ok (.invokevirtual 68, 3) := by decide +kernel
theorem dX5_readGround_29 : decode cX5_readGround 29 = .ok (.ifCond .ne 5, 3) := by decide +kernel
theorem dX5_readGround_32 : decode cX5_readGround 32 = .ok (.iconst 1, 1) := by decide +kernel
theorem dX5_readGround_33 : decode cX5_readGround 33 = .ok (.ireturn, 1) := by decide +kernel
theorem dX5_readGround_34 : decode cX5_readGround 34 = .ok (.aload_n 0, 1) := by decide +kernel
theorem dX5_readGround_35 : decode cX5_readGround 35 = .ok (.invokevirtual 22, 3) := by decide +kernel
theorem dX5_readGround_38 : decode cX5_readGround 38 = .ok (.aload_n 0, 1) := by decide +kernel
theorem dX5_readGround_39 : decode cX5_readGround 39 = .ok (.aload_n 1, 1) := by decide +kernel
theorem dX5_readGround_40 : decode cX5_readGround 40 = .ok (.getfield 120, 3) := by decide +kernel
theorem dX5_readGround_43 : decode cX5_readGround 43 = .ok (.iconst 0, 1) := by decide +kernel
theorem dX5_readGround_44 : decode cX5_readGround 44 = .ok (.iconst 1, 1) := by decide +kernel
theorem dX5_readGround_45 : decode cX5_readGround 45 = .ok (.bipush 100, 2) := by decide +kernel
theorem dX5_readGround_47 : decode cX5_readGround 47 = .ok (.invokevirtual 80, 3) := by decide +kernel
theorem dX5_readGround_50 : decode cX5_readGround 50 = .ok (.ifCond .eq 44, 3) := by decide +kernel
theorem dX5_readGround_53 : decode cX5_readGround 53 = .ok (.aload_n 0, 1) := by decide +kernel
theorem dX5_readGround_54 : decode cX5_readGround 54 = .ok (.aload_n 1, 1) := by decide +kernel
theorem dX5_readGround_55 : decode cX5_readGround 55 = .ok (.getfield 120, 3) := by decide +kernel
theorem dX5_readGround_58 : decode cX5_readGround 58 = .ok (.iconst 1, 1) := by decide +kernel
theorem dX5_readGround_59 : decode cX5_readGround 59 = .ok (.iconst 0, 1) := by decide +kernel
theorem dX5_readGround_60 : decode cX5_readGround 60 = .ok (.bipush 20, 2) := by decide +kernel
theorem dX5_readGround_62 : decode cX5_readGround 62 = .ok (.invokevirtual 80, 3) := by decide +kernel
theorem dX5_readGround_65 : decode cX5_readGround 65 = .ok (.ifCond .eq 29, 3) := by decide +kernel
theorem dX5_readGround_68 : decode cX5_readGround 68 = .ok (.aload_n 0, 1) := by decide +kernel
theorem dX5_readGround_69 : decode cX5_readGround 69 = .ok (.aload_n 1, 1) := by decide +kernel
theorem dX5_readGround_70 : decode cX5_readGround 70 = .ok (.getfield 120, 3) := by decide +kernel
theorem dX5_readGround_73 : decode cX5_readGround 73 = .ok (.iconst 2, 1) := by decide +kernel
theorem dX5_readGround_74 : decode cX5_readGround 74 = .ok (.iconst 1, 1) := by decide +kernel
theorem dX5_readGround_75 : decode cX5_readGround 75 = .ok (.bipush 99, 2) := by decide +kernel
theorem dX5_readGround_77 : decode cX5_readGround 77 = .ok (.invokevirtual 80, 3) := by decide +kernel
theorem dX5_readGround_80 : decode cX5_readGround 80 = .ok (.ifCond .eq 14, 3) := by decide +kernel
theorem dX5_readGround_83 : decode cX5_readGround 83 = .ok (.aload_n 0, 1) := by decide +kernel
theorem dX5_readGround_84 : decode cX5_readGround 84 = .ok (.invokevirtual 63, 3) := by decide +kernel
theorem dX5_readGround_87 : decode cX5_readGround 87 = .ok (.ifCond .eq 7, 3) := by decide +kernel
theorem dX5_readGround_90 : decode cX5_readGround 90 = .ok (.iconst 1, 1) := by decide +kernel
theorem dX5_readGround_91 : decode cX5_readGround 91 = .ok (.goto 4, 3) := by decide +kernel
theorem dX5_readGround_94 : decode cX5_readGround 94 = .ok (.iconst 0, 1) := by decide +kernel
theorem dX5_readGround_95 : decode cX5_readGround 95 = .ok (.ireturn, 1) := by decide +kernel
theorem dX5_readWord_0 : decode cX5_readWord 0 = .ok (.aload_n 0, 1) := by decide +kernel
theorem dX5_readWord_1 : decode cX5_readWord 1 = .ok (.aload_n 1, 1) := by decide +kernel
theorem dX5_readWord_2 : decode cX5_readWord 2 = .ok (.invokevirtual 68, 3) := by decide +kernel
theorem dX5_readWord_5 : decode cX5_readWord 5 = .ok (.ifCond .ne 9, 3) := by decide +kernel
theorem dX5_readWord_8 : decode cX5_readWord 8 = .ok (.aload_n 0, 1) := by decide +kernel
theorem dX5_readWord_9 : decode cX5_readWord 9 = .ok (.iconst 1, 1) := by decide +kernel
theorem dX5_readWord_10 : decode cX5_readWord 10 = .ok (.invokevirtual 53, 3) := by decide +kernel
theorem dX5_readWord_13 : decode cX5_readWord 13 = .ok (.ireturn, 1) := by decide +kernel
theorem dX5_readWord_14 : decode cX5_readWord 14 = .ok (.aload_n 0, 1) := by decide +kernel
theorem dX5_readWord_15 : decode cX5_readWord 15 = .ok (.invokevirtual 22, 3) := by decide +kernel
theorem dX5_readWord_18 : decode cX5_readWord 18 = .ok (.iconst 1, 1) := by decide +kernel
theorem dX5_readWord_19 : decode cX5_readWord 19 = .ok (.ireturn, 1) := by decide +kernel
theorem dX5_readSign_0 : decode cX5_readSign 0 = .ok (.aload_n 0, 1) := by decide +kernel
theorem dX5_readSign_1 : decode cX5_readSign 1 = .ok (.getfield 50, 3) := by decide +kernel
theorem dX5_readSign_4 : decode cX5_readSign 4 = .ok (.iconst 3, 1) := by decide +kernel
theorem dX5_readSign_5 : decode cX5_readSign 5 = .ok (.if_icmp .eq 9, 3) := by decide +kernel
theorem dX5_readSign_8 : decode cX5_readSign 8 = .ok (.aload_n 0, 1) := by decide +kernel
theorem dX5_readSign_9 : decode cX5_readSign 9 = .ok (.iconst 1, 1) := by decide +kernel
theorem dX5_readSign_10 : decode cX5_readSign 10 = .ok (.invokevirtual 53, 3) := by decide +kernel
theorem dX5_readSign_13 : decode cX5_readSign 13 = .ok (.ireturn, 1) := by decide +kernel
theorem dX5_readSign_14 : decode cX5_readSign 14 = .ok (.aload_n 0, 1) := by decide +kernel
theorem dX5_readSign_15 : decode cX5_readSign 15 = .ok (.invokevirtual 22, 3) := by decide +kernel
theorem dX5_readSign_18 : decode cX5_readSign 18 = .ok (.iconst 1, 1) := by decide +kernel
theorem dX5_readSign_19 : decode cX5_readSign 19 = .ok (.ireturn, 1) := by decide +kernel
theorem dX5_readNumber_0 : decode cX5_readNumber 0 = .ok (.aload_n 0, 1) := by decide +kernel
theorem dX5_readNumber_1 : decode cX5_readNumber 1 = .ok (.getfield 50, 3) := by decide +kernel
theorem dX5_readNumber_4 : decode cX5_readNumber 4 = .ok (.iconst 2, 1) := by decide +kernel
theorem dX5_readNumber_5 : decode cX5_readNumber 5 = .ok (.if_icmp .eq 9, 3) := by decide +kernel
theorem dX5_readNumber_8 : decode cX5_readNumber 8 = .ok (.aload_n 0, 1) := by decide +kernel
theorem dX5_readNumber_9 : decode cX5_readNumber 9 = .ok (.iconst 1, 1) := by decide +kernel
theorem dX5_readNumber_10 : decode cX5_readNumber 10 = .ok (.invokevirtual 53, 3) := by decide +kernel
theorem dX5_readNumber_13 : decode cX5_readNumber 13 = .ok (.ireturn, 1) := by decide +kernel
theorem dX5_readNumber_14 : decode cX5_readNumber 14 = .ok (.aload_n 0, 1) := by decide +kernel
theorem dX5_readNumber_15 : decode cX5_readNumber 15 = .ok (.getfield 125, 3) := by decide +kernel
theorem dX5_readNumber_18 : decode cX5_readNumber 18 = .ok (.iload_n 3, 1) := by decide +kernel
theorem dX5_readNumber_19 : decode cX5_readNumber 19 = .ok (.if_icmp .lt 12, 3) := by decide +kernel
theorem dX5_readNumber_22 : decode cX5_readNumber 22 = .ok (.aload_n 0, 1) := by decide +kernel
theorem dX5_readNumber_23 : decode cX5_readNumber 23 = .ok (.getfield 125, 3) := by decide +kernel
theorem dX5_readNumber_26 : decode cX5_readNumber 26 = .ok (.iload 4, 2) := by decide +kernel
theorem dX5_readNumber_28 : decode cX5_readNumber 28 = .ok (.if_icmp .le 9, 3) := by decide +kernel
theorem dX5_readNumber_31 : decode cX5_readNumber 31 = .ok (.aload_n 0, 1) := by decide +kernel
theorem dX5_readNumber_32 : decode cX5_readNumber 32 = .ok (.iconst 2, 1) := by decide +kernel
theorem dX5_readNumber_33 : decode cX5_readNumber 33 = .ok (.invokevirtual 53, 3) := by decide +kernel
theorem dX5_readNumber_36 : decode cX5_readNumber 36 = .ok (.ireturn, 1) := by decide +kernel
theorem dX5_readNumber_37 : decode cX5_readNumber 37 = .ok (.aload_n 1, 1) := by decide +kernel
theorem dX5_readNumber_38 : decode cX5_readNumber 38 = .ok (.iload_n 2, 1) := by decide +kernel
theorem dX5_readNumber_39 : decode cX5_readNumber 39 = .ok (.aload_n 0, 1) := by decide +kernel
theorem dX5_readNumber_40 : decode cX5_readNumber 40 = .ok (.getfield 125, 3) := by decide +kernel
theorem dX5_readNumber_43 : decode cX5_readNumber 43 = .ok (.iastore, 1) := by decide +kernel
theorem dX5_readNumber_44 : decode cX5_readNumber 44 = .ok (.aload_n 0, 1) := by decide +kernel
theorem dX5_readNumber_45 : decode cX5_readNumber 45 = .ok (.invokevirtual 22, 3) := by decide +kernel
theorem dX5_readNumber_48 : decode cX5_readNumber 48 = .ok (.iconst 1, 1) := by decide +kernel
theorem dX5_readNumber_49 : decode cX5_readNumber 49 = .ok (.ireturn, 1) := by decide +kernel
theorem dX5_readOneOf_0 : decode cX5_readOneOf 0 = .ok (.aload_n 0, 1) := by decide +kernel
theorem dX5_readOneOf_1 : decode cX5_readOneOf 1 = .ok (.aload_n 3, 1) := by decide +kernel
theorem dX5_readOneOf_2 : decode cX5_readOneOf 2 = .ok (.invokevirtual 68, 3) := by decide +kernel
theorem dX5_readOneOf_5 : decode cX5_readOneOf 5 = .ok (.ifCond .eq 7, 3) := by decide +kernel
theorem dX5_readOneOf_8 : decode cX5_readOneOf 8 = .ok (.iconst 0, 1) := by decide +kernel
theorem dX5_readOneOf_9 : decode cX5_readOneOf 9 = .ok (.goto 43, 3) := by decide +kernel
theorem dX5_readOneOf_12 : decode cX5_readOneOf 12 = .ok (.aload_n 0, 1) := by decide +kernel
theorem dX5_readOneOf_13 : decode cX5_readOneOf 13 = .ok (.aload 4, 2) := by decide +kernel
theorem dX5_readOneOf_15 : decode cX5_readOneOf 15 = .ok (.invokevirtual 68, 3) := by decide +kernel
theorem dX5_readOneOf_18 : decode cX5_readOneOf 18 = .ok (.ifCond .eq 7, 3) := by decide +kernel
theorem dX5_readOneOf_21 : decode cX5_readOneOf 21 = .ok (.iconst 1, 1) := by decide +kernel
theorem dX5_readOneOf_22 : decode cX5_readOneOf 22 = .ok (.goto 30, 3) := by decide +kernel
theorem dX5_readOneOf_25 : decode cX5_readOneOf 25 = .ok (.aload_n 0, 1) := by decide +kernel
theorem dX5_readOneOf_26 : decode cX5_readOneOf 26 = .ok (.aload 5, 2) := by decide +kernel
theorem dX5_readOneOf_28 : decode cX5_readOneOf 28 = .ok (.invokevirtual 68, 3) := by decide +kernel
theorem dX5_readOneOf_31 : decode cX5_readOneOf 31 = .ok (.ifCond .eq 7, 3) := by decide +kernel
theorem dX5_readOneOf_34 : decode cX5_readOneOf 34 = .ok (.iconst 2, 1) := by decide +kernel
theorem dX5_readOneOf_35 : decode cX5_readOneOf 35 = .ok (.goto 17, 3) := by decide +kernel
theorem dX5_readOneOf_38 : decode cX5_readOneOf 38 = .ok (.aload_n 0, 1) := by decide +kernel
theorem dX5_readOneOf_39 : decode cX5_readOneOf 39 = .ok (.aload 6, 2) := by decide +kernel
theorem dX5_readOneOf_41 : decode cX5_readOneOf 41 = .ok (.invokevirtual 68, 3) := by decide +kernel
theorem dX5_readOneOf_44 : decode cX5_readOneOf 44 = .ok (.ifCond .eq 7, 3) := by decide +kernel
theorem dX5_readOneOf_47 : decode cX5_readOneOf 47 = .ok (.iconst 3, 1) := by decide +kernel
theorem dX5_readOneOf_48 : decode cX5_readOneOf 48 = .ok (.goto 4, 3) := by decide +kernel
theorem dX5_readOneOf_51 : decode cX5_readOneOf 51 = .ok (.iconst (-1), 1) := by decide +kernel
theorem dX5_readOneOf_52 : decode cX5_readOneOf 52 = .ok (.istore 7, 2) := by decide +kernel
theorem dX5_readOneOf_54 : decode cX5_readOneOf 54 = .ok (.iload 7, 2) := by decide +kernel
theorem dX5_readOneOf_56 : decode cX5_readOneOf 56 = .ok (.ifCond .ge 9, 3) := by decide +kernel
theorem dX5_readOneOf_59 : decode cX5_readOneOf 59 = .ok (.aload_n 0, 1) := by decide +kernel
theorem dX5_readOneOf_60 : decode cX5_readOneOf 60 = .ok (.iconst 1, 1) := by decide +kernel
theorem dX5_readOneOf_61 : decode cX5_readOneOf 61 = .ok (.invokevirtual 53, 3) := by decide +kernel
theorem dX5_readOneOf_64 : decode cX5_readOneOf 64 = .ok (.ireturn, 1) := by decide +kernel
theorem dX5_readOneOf_65 : decode cX5_readOneOf 65 = .ok (.aload_n 1, 1) := by decide +kernel
theorem dX5_readOneOf_66 : decode cX5_readOneOf 66 = .ok (.iload_n 2, 1) := by decide +kernel
theorem dX5_readOneOf_67 : decode cX5_readOneOf 67 = .ok (.iload 7, 2) := by decide +kernel
theorem dX5_readOneOf_69 : decode cX5_readOneOf 69 = .ok (.iastore, 1) := by decide +kernel
theorem dX5_readOneOf_70 : decode cX5_readOneOf 70 = .ok (.aload_n 0, 1) := by decide +kernel
theorem dX5_readOneOf_71 : decode cX5_readOneOf 71 = .ok (.invokevirtual 22, 3) := by decide +kernel
theorem dX5_readOneOf_74 : decode cX5_readOneOf 74 = .ok (.iconst 1, 1) := by decide +kernel
theorem dX5_readOneOf_75 : decode cX5_readOneOf 75 = .ok (.ireturn, 1) := by decide +kernel
theorem dX5_refuse_0 : decode cX5_refuse 0 = .ok (.aload_n 0, 1) := by decide +kernel
theorem dX5_refuse_1 : decode cX5_refuse 1 = .ok (.iload_n 1, 1) := by decide +kernel
theorem dX5_refuse_2 : decode cX5_refuse 2 = .ok (.putfield 128, 3) := by decide +kernel
theorem dX5_refuse_5 : decode cX5_refuse 5 = .ok (.aload_n 0, 1) := by decide +kernel
theorem dX5_refuse_6 : decode cX5_refuse 6 = .ok (.aload_n 0, 1) := by decide +kernel
theorem dX5_refuse_7 : decode cX5_refuse 7 = .ok (.getfield 131, 3) := by decide +kernel
theorem dX5_refuse_10 : decode cX5_refuse 10 = .ok (.putfield 134, 3) := by decide +kernel
theorem dX5_refuse_13 : decode cX5_refuse 13 = .ok (.iconst 0, 1) := by decide +kernel
theorem dX5_refuse_14 : decode cX5_refuse 14 = .ok (.ireturn, 1) := by decide +kernel
theorem dX5_isName_0 : decode cX5_isName 0 = .ok (.aload_n 0, 1) := by decide +kernel
theorem dX5_isName_1 : decode cX5_isName 1 = .ok (.getfield 50, 3) := by decide +kernel
theorem dX5_isName_4 : decode cX5_isName 4 = .ok (.iconst 1, 1) := by decide +kernel
theorem dX5_isName_5 : decode cX5_isName 5 = .ok (.if_icmp .ne 19, 3) := by decide +kernel
theorem dX5_isName_8 : decode cX5_isName 8 = .ok (.aload_n 0, 1) := by decide +kernel
theorem dX5_isName_9 : decode cX5_isName 9 = .ok (.getfield 19, 3) := by decide +kernel
theorem dX5_isName_12 : decode cX5_isName 12 = .ok (.aload_n 0, 1) := by decide +kernel
theorem dX5_isName_13 : decode cX5_isName 13 = .ok (.getfield 131, 3) := by decide +kernel
theorem dX5_isName_16 : decode cX5_isName 16 = .ok (.isub, 1) := by decide +kernel
theorem dX5_isName_17 : decode cX5_isName 17 = .ok (.aload_n 1, 1) := by decide +kernel
theorem dX5_isName_18 : decode cX5_isName 18 = .ok (.invokevirtual 137, 3) := by decide +kernel
theorem dX5_isName_21 : decode cX5_isName 21 = .ok (.if_icmp .eq 5, 3) := by decide +kernel
theorem dX5_isName_24 : decode cX5_isName 24 = .ok (.iconst 0, 1) := by decide +kernel
theorem dX5_isName_25 : decode cX5_isName 25 = .ok (.ireturn, 1) := by decide +kernel
theorem dX5_isName_26 : decode cX5_isName 26 = .ok (.iconst 0, 1) := by decide +kernel
theorem dX5_isName_27 : decode cX5_isName 27 = .ok (.istore_n 2, 1) := by decide +kernel
theorem dX5_isName_28 : decode cX5_isName 28 = .ok (.iload_n 2, 1) := by decide +kernel
theorem dX5_isName_29 : decode cX5_isName 29 = .ok (.aload_n 1, 1) := by decide +kernel
theorem dX5_isName_30 : decode cX5_isName 30 = .ok (.invokevirtual 137, 3) := by decide +kernel
theorem dX5_isName_33 : decode cX5_isName 33 = .ok (.if_icmp .ge 30, 3) := by decide +kernel
theorem dX5_isName_36 : decode cX5_isName 36 = .ok (.aload_n 0, 1) := by decide +kernel
theorem dX5_isName_37 : decode cX5_isName 37 = .ok (.getfield 9, 3) := by decide +kernel
theorem dX5_isName_40 : decode cX5_isName 40 = .ok (.aload_n 0, 1) := by decide +kernel
theorem dX5_isName_41 : decode cX5_isName 41 = .ok (.getfield 131, 3) := by decide +kernel
theorem dX5_isName_44 : decode cX5_isName 44 = .ok (.iload_n 2, 1) := by decide +kernel
theorem dX5_isName_45 : decode cX5_isName 45 = .ok (.iadd, 1) := by decide +kernel
theorem dX5_isName_46 : decode cX5_isName 46 = .ok (.baload, 1) := by decide +kernel
theorem dX5_isName_47 : decode cX5_isName 47 = .ok (.aload_n 1, 1) := by decide +kernel
theorem dX5_isName_48 : decode cX5_isName 48 = .ok (.iload_n 2, 1) := by decide +kernel
theorem dX5_isName_49 : decode cX5_isName 49 = .ok (.invokevirtual 143, 3) := by decide +kernel
theorem dX5_isName_52 : decode cX5_isName 52 = .ok (.if_icmp .eq 5, 3) := by decide +kernel
theorem dX5_isName_55 : decode cX5_isName 55 = .ok (.iconst 0, 1) := by decide +kernel
theorem dX5_isName_56 : decode cX5_isName 56 = .ok (.ireturn, 1) := by decide +kernel
theorem dX5_isName_57 : decode cX5_isName 57 = .ok (.iinc 2 1, 3) := by decide +kernel
theorem dX5_isName_60 : decode cX5_isName 60 = .ok (.goto (-32), 3) := by decide +kernel
theorem dX5_isName_63 : decode cX5_isName 63 = .ok (.iconst 1, 1) := by decide +kernel
theorem dX5_isName_64 : decode cX5_isName 64 = .ok (.ireturn, 1) := by decide +kernel
theorem dX5_advance_0 : decode cX5_advance 0 = .ok (.aload_n 0, 1) := by decide +kernel
theorem dX5_advance_1 : decode cX5_advance 1 = .ok (.aload_n 0, 1) := by decide +kernel
theorem dX5_advance_2 : decode cX5_advance 2 = .ok (.getfield 19, 3) := by decide +kernel
theorem dX5_advance_5 : decode cX5_advance 5 = .ok (.putfield 131, 3) := by decide +kernel
theorem dX5_advance_8 : decode cX5_advance 8 = .ok (.aload_n 0, 1) := by decide +kernel
theorem dX5_advance_9 : decode cX5_advance 9 = .ok (.getfield 131, 3) := by decide +kernel
theorem dX5_advance_12 : decode cX5_advance 12 = .ok (.aload_n 0, 1) := by decide +kernel
theorem dX5_advance_13 : decode cX5_advance 13 = .ok (.getfield 15, 3) := by decide +kernel
theorem dX5_advance_16 : decode cX5_advance 16 = .ok (.if_icmp .ge 44, 3) := by decide +kernel
theorem dX5_advance_19 : decode cX5_advance 19 = .ok (.aload_n 0, 1) := by decide +kernel
theorem dX5_advance_20 : decode cX5_advance 20 = .ok (.getfield 9, 3) := by decide +kernel
theorem dX5_advance_23 : decode cX5_advance 23 = .ok (.aload_n 0, 1) := by decide +kernel
theorem dX5_advance_24 : decode cX5_advance 24 = .ok (.getfield 131, 3) := by decide +kernel
theorem dX5_advance_27 : decode cX5_advance 27 = .ok (.baload, 1) := by decide +kernel
theorem dX5_advance_28 : decode cX5_advance 28 = .ok (.bipush 32, 2) := by decide +kernel
theorem dX5_advance_30 : decode cX5_advance 30 = .ok (.if_icmp .eq 17, 3) := by decide +kernel
theorem dX5_advance_33 : decode cX5_advance 33 = .ok (.aload_n 0, 1) := by decide +kernel
theorem dX5_advance_34 : decode cX5_advance 34 = .ok (.getfield 9, 3) := by decide +kernel
theorem dX5_advance_37 : decode cX5_advance 37 = .ok (.aload_n 0, 1) := by decide +kernel
theorem dX5_advance_38 : decode cX5_advance 38 = .ok (.getfield 131, 3) := by decide +kernel
theorem dX5_advance_41 : decode cX5_advance 41 = .ok (.baload, 1) := by decide +kernel
theorem dX5_advance_42 : decode cX5_advance 42 = .ok (.bipush 10, 2) := by decide +kernel
theorem dX5_advance_44 : decode cX5_advance 44 = .ok (.if_icmp .ne 16, 3) := by decide +kernel
theorem dX5_advance_47 : decode cX5_advance 47 = .ok (.aload_n 0, 1) := by decide +kernel
theorem dX5_advance_48 : decode cX5_advance 48 = .ok (.dup, 1) := by decide +kernel
theorem dX5_advance_49 : decode cX5_advance 49 = .ok (.getfield 131, 3) := by decide +kernel
theorem dX5_advance_52 : decode cX5_advance 52 = .ok (.iconst 1, 1) := by decide +kernel
theorem dX5_advance_53 : decode cX5_advance 53 = .ok (.iadd, 1) := by decide +kernel
theorem dX5_advance_54 : decode cX5_advance 54 = .ok (.putfield 131, 3) := by decide +kernel
theorem dX5_advance_57 : decode cX5_advance 57 = .ok (.goto (-49), 3) := by decide +kernel
theorem dX5_advance_60 : decode cX5_advance 60 = .ok (.aload_n 0, 1) := by decide +kernel
theorem dX5_advance_61 : decode cX5_advance 61 = .ok (.aload_n 0, 1) := by decide +kernel
theorem dX5_advance_62 : decode cX5_advance 62 = .ok (.getfield 131, 3) := by decide +kernel
theorem dX5_advance_65 : decode cX5_advance 65 = .ok (.putfield 19, 3) := by decide +kernel
theorem dX5_advance_68 : decode cX5_advance 68 = .ok (.aload_n 0, 1) := by decide +kernel
theorem dX5_advance_69 : decode cX5_advance 69 = .ok (.getfield 131, 3) := by decide +kernel
theorem dX5_advance_72 : decode cX5_advance 72 = .ok (.aload_n 0, 1) := by decide +kernel
theorem dX5_advance_73 : decode cX5_advance 73 = .ok (.getfield 15, 3) := by decide +kernel
theorem dX5_advance_76 : decode cX5_advance 76 = .ok (.if_icmp .lt 11, 3) := by decide +kernel
theorem dX5_advance_79 : decode cX5_advance 79 = .ok (.aload_n 0, 1) := by decide +kernel
theorem dX5_advance_80 : decode cX5_advance 80 = .ok (.iconst 0, 1) := by decide +kernel
theorem dX5_advance_81 : decode cX5_advance 81 = .ok (.putfield 50, 3) := by decide +kernel
theorem dX5_advance_84 : decode cX5_advance 84 = .ok (.goto 94, 3) := by decide +kernel
theorem dX5_advance_87 : decode cX5_advance 87 = .ok (.aload_n 0, 1) := by decide +kernel
theorem dX5_advance_88 : decode cX5_advance 88 = .ok (.getfield 9, 3) := by decide +kernel
theorem dX5_advance_91 : decode cX5_advance 91 = .ok (.aload_n 0, 1) := by decide +kernel
theorem dX5_advance_92 : decode cX5_advance 92 = .ok (.getfield 131, 3) := by decide +kernel
theorem dX5_advance_95 : decode cX5_advance 95 = .ok (.baload, 1) := by decide +kernel
theorem dX5_advance_96 : decode cX5_advance 96 = .ok (.invokestatic 147, 3) := by decide +kernel
theorem dX5_advance_99 : decode cX5_advance 99 = .ok (.ifCond .eq 10, 3) := by decide +kernel
theorem dX5_advance_102 : decode cX5_advance 102 = .ok (.aload_n 0, 1) := by decide +kernel
theorem dX5_advance_103 : decode cX5_advance 103 = .ok (.invokevirtual 151, 3) := by decide +kernel
theorem dX5_advance_106 : decode cX5_advance 106 = .ok (.goto 72, 3) := by decide +kernel
theorem dX5_advance_109 : decode cX5_advance 109 = .ok (.aload_n 0, 1) := by decide +kernel
theorem dX5_advance_110 : decode cX5_advance 110 = .ok (.getfield 9, 3) := by decide +kernel
theorem dX5_advance_113 : decode cX5_advance 113 = .ok (.aload_n 0, 1) := by decide +kernel
theorem dX5_advance_114 : decode cX5_advance 114 = .ok (.getfield 131, 3) := by decide +kernel
theorem dX5_advance_117 : decode cX5_advance 117 = .ok (.baload, 1) := by decide +kernel
theorem dX5_advance_118 : decode cX5_advance 118 = .ok (.invokestatic 154, 3) := by decide +kernel
theorem dX5_advance_121 : decode cX5_advance 121 = .ok (.ifCond .ne 17, 3) := by decide +kernel
theorem dX5_advance_124 : decode cX5_advance 124 = .ok (.aload_n 0, 1) := by decide +kernel
theorem dX5_advance_125 : decode cX5_advance 125 = .ok (.getfield 9, 3) := by decide +kernel
theorem dX5_advance_128 : decode cX5_advance 128 = .ok (.aload_n 0, 1) := by decide +kernel
theorem dX5_advance_129 : decode cX5_advance 129 = .ok (.getfield 131, 3) := by decide +kernel
theorem dX5_advance_132 : decode cX5_advance 132 = .ok (.baload, 1) := by decide +kernel
theorem dX5_advance_133 : decode cX5_advance 133 = .ok (.bipush 45, 2) := by decide +kernel
theorem dX5_advance_135 : decode cX5_advance 135 = .ok (.if_icmp .ne 10, 3) := by decide +kernel
theorem dX5_advance_138 : decode cX5_advance 138 = .ok (.aload_n 0, 1) := by decide +kernel
theorem dX5_advance_139 : decode cX5_advance 139 = .ok (.invokevirtual 157, 3) := by decide +kernel
theorem dX5_advance_142 : decode cX5_advance 142 = .ok (.goto 36, 3) := by decide +kernel
theorem dX5_advance_145 : decode cX5_advance 145 = .ok (.aload_n 0, 1) := by decide +kernel
theorem dX5_advance_146 : decode cX5_advance 146 = .ok (.aload_n 0, 1) := by decide +kernel
theorem dX5_advance_147 : decode cX5_advance 147 = .ok (.getfield 9, 3) := by decide +kernel
theorem dX5_advance_150 : decode cX5_advance 150 = .ok (.aload_n 0, 1) := by decide +kernel
theorem dX5_advance_151 : decode cX5_advance 151 = .ok (.getfield 131, 3) := by decide +kernel
theorem dX5_advance_154 : decode cX5_advance 154 = .ok (.baload, 1) := by decide +kernel
theorem dX5_advance_155 : decode cX5_advance 155 = .ok (.bipush 59, 2) := by decide +kernel
theorem dX5_advance_157 : decode cX5_advance 157 = .ok (.if_icmp .ne 7, 3) := by decide +kernel
theorem dX5_advance_160 : decode cX5_advance 160 = .ok (.iconst 3, 1) := by decide +kernel
theorem dX5_advance_161 : decode cX5_advance 161 = .ok (.goto 4, 3) := by decide +kernel
theorem dX5_advance_164 : decode cX5_advance 164 = .ok (.iconst 4, 1) := by decide +kernel
theorem dX5_advance_165 : decode cX5_advance 165 = .ok (.putfield 50, 3) := by decide +kernel
theorem dX5_advance_168 : decode cX5_advance 168 = .ok (.aload_n 0, 1) := by decide +kernel
theorem dX5_advance_169 : decode cX5_advance 169 = .ok (.aload_n 0, 1) := by decide +kernel
theorem dX5_advance_170 : decode cX5_advance 170 = .ok (.getfield 131, 3) := by decide +kernel
theorem dX5_advance_173 : decode cX5_advance 173 = .ok (.iconst 1, 1) := by decide +kernel
theorem dX5_advance_174 : decode cX5_advance 174 = .ok (.iadd, 1) := by decide +kernel
theorem dX5_advance_175 : decode cX5_advance 175 = .ok (.putfield 19, 3) := by decide +kernel
theorem dX5_advance_178 : decode cX5_advance 178 = .ok (.return_, 1) := by decide +kernel
theorem dX5_takeName_0 : decode cX5_takeName 0 = .ok (.aload_n 0, 1) := by decide +kernel
theorem dX5_takeName_1 : decode cX5_takeName 1 = .ok (.iconst 1, 1) := by decide +kernel
theorem dX5_takeName_2 : decode cX5_takeName 2 = .ok (.putfield 50, 3) := by decide +kernel
theorem dX5_takeName_5 : decode cX5_takeName 5 = .ok (.aload_n 0, 1) := by decide +kernel
theorem dX5_takeName_6 : decode cX5_takeName 6 = .ok (.getfield 19, 3) := by decide +kernel
theorem dX5_takeName_9 : decode cX5_takeName 9 = .ok (.aload_n 0, 1) := by decide +kernel
theorem dX5_takeName_10 : decode cX5_takeName 10 = .ok (.getfield 15, 3) := by decide +kernel
theorem dX5_takeName_13 : decode cX5_takeName 13 = .ok (.if_icmp .ge 31, 3) := by decide +kernel
theorem dX5_takeName_16 : decode cX5_takeName 16 = .ok (.aload_n 0, 1) := by decide +kernel
theorem dX5_takeName_17 : decode cX5_takeName 17 = .ok (.getfield 9, 3) := by decide +kernel
theorem dX5_takeName_20 : decode cX5_takeName 20 = .ok (.aload_n 0, 1) := by decide +kernel
theorem dX5_takeName_21 : decode cX5_takeName 21 = .ok (.getfield 19, 3) := by decide +kernel
theorem dX5_takeName_24 : decode cX5_takeName 24 = .ok (.baload, 1) := by decide +kernel
theorem dX5_takeName_25 : decode cX5_takeName 25 = .ok (.invokestatic 147, 3) := by decide +kernel
theorem dX5_takeName_28 : decode cX5_takeName 28 = .ok (.ifCond .eq 16, 3) := by decide +kernel
theorem dX5_takeName_31 : decode cX5_takeName 31 = .ok (.aload_n 0, 1) := by decide +kernel
theorem dX5_takeName_32 : decode cX5_takeName 32 = .ok (.dup, 1) := by decide +kernel
theorem dX5_takeName_33 : decode cX5_takeName 33 = .ok (.getfield 19, 3) := by decide +kernel
theorem dX5_takeName_36 : decode cX5_takeName 36 = .ok (.iconst 1, 1) := by decide +kernel
theorem dX5_takeName_37 : decode cX5_takeName 37 = .ok (.iadd, 1) := by decide +kernel
theorem dX5_takeName_38 : decode cX5_takeName 38 = .ok (.putfield 19, 3) := by decide +kernel
theorem dX5_takeName_41 : decode cX5_takeName 41 = .ok (.goto (-36), 3) := by decide +kernel
theorem dX5_takeName_44 : decode cX5_takeName 44 = .ok (.return_, 1) := by decide +kernel
theorem dX5_takeNumber_0 : decode cX5_takeNumber 0 = .ok (.aload_n 0, 1) := by decide +kernel
theorem dX5_takeNumber_1 : decode cX5_takeNumber 1 = .ok (.getfield 9, 3) := by decide +kernel
theorem dX5_takeNumber_4 : decode cX5_takeNumber 4 = .ok (.aload_n 0, 1) := by decide +kernel
theorem dX5_takeNumber_5 : decode cX5_takeNumber 5 = .ok (.getfield 131, 3) := by decide +kernel
theorem dX5_takeNumber_8 : decode cX5_takeNumber 8 = .ok (.baload, 1) := by decide +kernel
theorem dX5_takeNumber_9 : decode cX5_takeNumber 9 = .ok (.bipush 45, 2) := by decide +kernel
theorem dX5_takeNumber_11 : decode cX5_takeNumber 11 = .ok (.if_icmp .ne 7, 3) := by decide +kernel
theorem dX5_takeNumber_14 : decode cX5_takeNumber 14 = .ok (.iconst 1, 1) := by decide +kernel
theorem dX5_takeNumber_15 : decode cX5_takeNumber 15 = .ok (.goto 4, 3) := by decide +kernel
theorem dX5_takeNumber_18 : decode cX5_takeNumber 18 = .ok (.iconst 0, 1) := by decide +kernel
theorem dX5_takeNumber_19 : decode cX5_takeNumber 19 = .ok (.istore_n 1, 1) := by decide +kernel
theorem dX5_takeNumber_20 : decode cX5_takeNumber 20 = .ok (.iload_n 1, 1) := by decide +kernel
theorem dX5_takeNumber_21 : decode cX5_takeNumber 21 = .ok (.ifCond .eq 12, 3) := by decide +kernel
theorem dX5_takeNumber_24 : decode cX5_takeNumber 24 = .ok (.aload_n 0, 1) := by decide +kernel
theorem dX5_takeNumber_25 : decode cX5_takeNumber 25 = .ok (.getfield 131, 3) := by decide +kernel
theorem dX5_takeNumber_28 : decode cX5_takeNumber 28 = .ok (.iconst 1, 1) := by decide +kernel
theorem dX5_takeNumber_29 : decode cX5_takeNumber 29 = .ok (.iadd, 1) := by decide +kernel
theorem dX5_takeNumber_30 : decode cX5_takeNumber 30 = .ok (.goto 7, 3) := by decide +kernel
theorem dX5_takeNumber_33 : decode cX5_takeNumber 33 = .ok (.aload_n 0, 1) := by decide +kernel
theorem dX5_takeNumber_34 : decode cX5_takeNumber 34 = .ok (.getfield 131, 3) := by decide +kernel
theorem dX5_takeNumber_37 : decode cX5_takeNumber 37 = .ok (.istore_n 2, 1) := by decide +kernel
theorem dX5_takeNumber_38 : decode cX5_takeNumber 38 = .ok (.aload_n 0, 1) := by decide +kernel
theorem dX5_takeNumber_39 : decode cX5_takeNumber 39 = .ok (.iconst 0, 1) := by decide +kernel
theorem dX5_takeNumber_40 : decode cX5_takeNumber 40 = .ok (.putfield 125, 3) := by decide +kernel
theorem dX5_takeNumber_43 : decode cX5_takeNumber 43 = .ok (.aload_n 0, 1) := by decide +kernel
theorem dX5_takeNumber_44 : decode cX5_takeNumber 44 = .ok (.iload_n 2, 1) := by decide +kernel
theorem dX5_takeNumber_45 : decode cX5_takeNumber 45 = .ok (.putfield 19, 3) := by decide +kernel
theorem dX5_takeNumber_48 : decode cX5_takeNumber 48 = .ok (.aload_n 0, 1) := by decide +kernel
theorem dX5_takeNumber_49 : decode cX5_takeNumber 49 = .ok (.getfield 19, 3) := by decide +kernel
theorem dX5_takeNumber_52 : decode cX5_takeNumber 52 = .ok (.aload_n 0, 1) := by decide +kernel
theorem dX5_takeNumber_53 : decode cX5_takeNumber 53 = .ok (.getfield 15, 3) := by decide +kernel
theorem dX5_takeNumber_56 : decode cX5_takeNumber 56 = .ok (.if_icmp .ge 55, 3) := by decide +kernel
theorem dX5_takeNumber_59 : decode cX5_takeNumber 59 = .ok (.aload_n 0, 1) := by decide +kernel
theorem dX5_takeNumber_60 : decode cX5_takeNumber 60 = .ok (.getfield 9, 3) := by decide +kernel
theorem dX5_takeNumber_63 : decode cX5_takeNumber 63 = .ok (.aload_n 0, 1) := by decide +kernel
theorem dX5_takeNumber_64 : decode cX5_takeNumber 64 = .ok (.getfield 19, 3) := by decide +kernel
theorem dX5_takeNumber_67 : decode cX5_takeNumber 67 = .ok (.baload, 1) := by decide +kernel
theorem dX5_takeNumber_68 : decode cX5_takeNumber 68 = .ok (.invokestatic 154, 3) := by decide +kernel
theorem dX5_takeNumber_71 : decode cX5_takeNumber 71 = .ok (.ifCond .eq 40, 3) := by decide +kernel
theorem dX5_takeNumber_74 : decode cX5_takeNumber 74 = .ok (.aload_n 0, 1) := by decide +kernel
theorem dX5_takeNumber_75 : decode cX5_takeNumber 75 = .ok (.aload_n 0, 1) := by decide +kernel
theorem dX5_takeNumber_76 : decode cX5_takeNumber 76 = .ok (.getfield 125, 3) := by decide +kernel
theorem dX5_takeNumber_79 : decode cX5_takeNumber 79 = .ok (.bipush 10, 2) := by decide +kernel
theorem dX5_takeNumber_81 : decode cX5_takeNumber 81 = .ok (.imul, 1) := by decide +kernel
theorem dX5_takeNumber_82 : decode cX5_takeNumber 82 = .ok (.aload_n 0, 1) := by decide +kernel
theorem dX5_takeNumber_83 : decode cX5_takeNumber 83 = .ok (.getfield 9, 3) := by decide +kernel
theorem dX5_takeNumber_86 : decode cX5_takeNumber 86 = .ok (.aload_n 0, 1) := by decide +kernel
theorem dX5_takeNumber_87 : decode cX5_takeNumber 87 = .ok (.getfield 19, 3) := by decide +kernel
theorem dX5_takeNumber_90 : decode cX5_takeNumber 90 = .ok (.baload, 1) := by decide +kernel
theorem dX5_takeNumber_91 : decode cX5_takeNumber 91 = .ok (.bipush 48, 2) := by decide +kernel
theorem dX5_takeNumber_93 : decode cX5_takeNumber 93 = .ok (.isub, 1) := by decide +kernel
theorem dX5_takeNumber_94 : decode cX5_takeNumber 94 = .ok (.iadd, 1) := by decide +kernel
theorem dX5_takeNumber_95 : decode cX5_takeNumber 95 = .ok (.putfield 125, 3) := by decide +kernel
theorem dX5_takeNumber_98 : decode cX5_takeNumber 98 = .ok (.aload_n 0, 1) := by decide +kernel
theorem dX5_takeNumber_99 : decode cX5_takeNumber 99 = .ok (.dup, 1) := by decide +kernel
theorem dX5_takeNumber_100 : decode cX5_takeNumber 100 = .ok (.getfield 19, 3) := by decide +kernel
theorem dX5_takeNumber_103 : decode cX5_takeNumber 103 = .ok (.iconst 1, 1) := by decide +kernel
theorem dX5_takeNumber_104 : decode cX5_takeNumber 104 = .ok (.iadd, 1) := by decide +kernel
theorem dX5_takeNumber_105 : decode cX5_takeNumber 105 = .ok (.putfield 19, 3) := by decide +kernel
theorem dX5_takeNumber_108 : decode cX5_takeNumber 108 = .ok (.goto (-60), 3) := by decide +kernel
theorem dX5_takeNumber_111 : decode cX5_takeNumber 111 = .ok (.aload_n 0, 1) := by decide +kernel
theorem dX5_takeNumber_112 : decode cX5_takeNumber 112 = .ok (.iload_n 1, 1) := by decide +kernel
theorem dX5_takeNumber_113 : decode cX5_takeNumber 113 = .ok (.ifCond .eq 11, 3) := by decide +kernel
theorem dX5_takeNumber_116 : decode cX5_takeNumber 116 = .ok (.aload_n 0, 1) := by decide +kernel
theorem dX5_takeNumber_117 : decode cX5_takeNumber 117 = .ok (.getfield 125, 3) := by decide +kernel
theorem dX5_takeNumber_120 : decode cX5_takeNumber 120 = .ok (.ineg, 1) := by decide +kernel
theorem dX5_takeNumber_121 : decode cX5_takeNumber 121 = .ok (.goto 7, 3) := by decide +kernel
theorem dX5_takeNumber_124 : decode cX5_takeNumber 124 = .ok (.aload_n 0, 1) := by decide +kernel
theorem dX5_takeNumber_125 : decode cX5_takeNumber 125 = .ok (.getfield 125, 3) := by decide +kernel
theorem dX5_takeNumber_128 : decode cX5_takeNumber 128 = .ok (.putfield 125, 3) := by decide +kernel
theorem dX5_takeNumber_131 : decode cX5_takeNumber 131 = .ok (.aload_n 0, 1) := by decide +kernel
theorem dX5_takeNumber_132 : decode cX5_takeNumber 132 = .ok (.aload_n 0, 1) := by decide +kernel
theorem dX5_takeNumber_133 : decode cX5_takeNumber 133 = .ok (.getfield 19, 3) := by decide +kernel
theorem dX5_takeNumber_136 : decode cX5_takeNumber 136 = .ok (.iload_n 2, 1) := by decide +kernel
theorem dX5_takeNumber_137 : decode cX5_takeNumber 137 = .ok (.isub, 1) := by decide +kernel
theorem dX5_takeNumber_138 : decode cX5_takeNumber 138 = .ok (.iconst 1, 1) := by decide +kernel
theorem dX5_takeNumber_139 : decode cX5_takeNumber 139 = .ok (.if_icmp .lt 17, 3) := by decide +kernel
theorem dX5_takeNumber_142 : decode cX5_takeNumber 142 = .ok (.aload_n 0, 1) := by decide +kernel
theorem dX5_takeNumber_143 : decode cX5_takeNumber 143 = .ok (.getfield 19, 3) := by decide +kernel
theorem dX5_takeNumber_146 : decode cX5_takeNumber 146 = .ok (.iload_n 2, 1) := by decide +kernel
theorem dX5_takeNumber_147 : decode cX5_takeNumber 147 = .ok (.isub, 1) := by decide +kernel
theorem dX5_takeNumber_148 : decode cX5_takeNumber 148 = .ok (.iconst 3, 1) := by decide +kernel
theorem dX5_takeNumber_149 : decode cX5_takeNumber 149 = .ok (.if_icmp .gt 7, 3) := by decide +kernel
theorem dX5_takeNumber_152 : decode cX5_takeNumber 152 = .ok (.iconst 2, 1) := by decide +kernel
theorem dX5_takeNumber_153 : decode cX5_takeNumber 153 = .ok (.goto 4, 3) := by decide +kernel
theorem dX5_takeNumber_156 : decode cX5_takeNumber 156 = .ok (.iconst 4, 1) := by decide +kernel
theorem dX5_takeNumber_157 : decode cX5_takeNumber 157 = .ok (.putfield 50, 3) := by decide +kernel
theorem dX5_takeNumber_160 : decode cX5_takeNumber 160 = .ok (.return_, 1) := by decide +kernel
theorem dX5_isLetter_0 : decode cX5_isLetter 0 = .ok (.iload_n 0, 1) := by decide +kernel
theorem dX5_isLetter_1 : decode cX5_isLetter 1 = .ok (.bipush 97, 2) := by decide +kernel
theorem dX5_isLetter_3 : decode cX5_isLetter 3 = .ok (.if_icmp .lt 13, 3) := by decide +kernel
theorem dX5_isLetter_6 : decode cX5_isLetter 6 = .ok (.iload_n 0, 1) := by decide +kernel
theorem dX5_isLetter_7 : decode cX5_isLetter 7 = .ok (.bipush 122, 2) := by decide +kernel
theorem dX5_isLetter_9 : decode cX5_isLetter 9 = .ok (.if_icmp .gt 7, 3) := by decide +kernel
theorem dX5_isLetter_12 : decode cX5_isLetter 12 = .ok (.iconst 1, 1) := by decide +kernel
theorem dX5_isLetter_13 : decode cX5_isLetter 13 = .ok (.goto 4, 3) := by decide +kernel
theorem dX5_isLetter_16 : decode cX5_isLetter 16 = .ok (.iconst 0, 1) := by decide +kernel
theorem dX5_isLetter_17 : decode cX5_isLetter 17 = .ok (.ireturn, 1) := by decide +kernel
theorem dX5_isFigure_0 : decode cX5_isFigure 0 = .ok (.iload_n 0, 1) := by decide +kernel
theorem dX5_isFigure_1 : decode cX5_isFigure 1 = .ok (.bipush 48, 2) := by decide +kernel
theorem dX5_isFigure_3 : decode cX5_isFigure 3 = .ok (.if_icmp .lt 13, 3) := by decide +kernel
theorem dX5_isFigure_6 : decode cX5_isFigure 6 = .ok (.iload_n 0, 1) := by decide +kernel
theorem dX5_isFigure_7 : decode cX5_isFigure 7 = .ok (.bipush 57, 2) := by decide +kernel
theorem dX5_isFigure_9 : decode cX5_isFigure 9 = .ok (.if_icmp .gt 7, 3) := by decide +kernel
theorem dX5_isFigure_12 : decode cX5_isFigure 12 = .ok (.iconst 1, 1) := by decide +kernel
theorem dX5_isFigure_13 : decode cX5_isFigure 13 = .ok (.goto 4, 3) := by decide +kernel
theorem dX5_isFigure_16 : decode cX5_isFigure 16 = .ok (.iconst 0, 1) := by decide +kernel
theorem dX5_isFigure_17 : decode cX5_isFigure 17 = .ok (.ireturn, 1) := by decide +kernel
theorem dX6_init_0 : decode cX6_init 0 = .ok (.aload_n 0, 1) := by decide +kernel
theorem dX6_init_1 : decode cX6_init 1 = .ok (.invokespecial 3, 3) := by decide +kernel
theorem dX6_init_4 : decode cX6_init 4 = .ok (.aload_n 0, 1) := by decide +kernel
theorem dX6_init_5 : decode cX6_init 5 = .ok (.iconst 1, 1) := by decide +kernel
theorem dX6_init_6 : decode cX6_init 6 = .ok (.putfield 9, 3) := by decide +kernel
theorem dX6_init_9 : decode cX6_init 9 = .ok (.aload_n 0, 1) := by decide +kernel
theorem dX6_init_10 : decode cX6_init 10 = .ok (.bipush 40, 2) := by decide +kernel
theorem dX6_init_12 : decode cX6_init 12 = .ok (.newarray .int, 2) := by decide +kernel
theorem dX6_init_14 : decode cX6_init 14 = .ok (.putfield 15, 3) := by decide +kernel
theorem dX6_init_17 : decode cX6_init 17 = .ok (.return_, 1) := by decide +kernel
theorem dX6_lay_0 : decode cX6_lay 0 = .ok (.aload_n 0, 1) := by decide +kernel
theorem dX6_lay_1 : decode cX6_lay 1 = .ok (.iconst 0, 1) := by decide +kernel
theorem dX6_lay_2 : decode cX6_lay 2 = .ok (.putfield 9, 3) := by decide +kernel
theorem dX6_lay_5 : decode cX6_lay 5 = .ok (.aload_n 0, 1) := by decide +kernel
theorem dX6_lay_6 : decode cX6_lay 6 = .ok (.iload_n 1, 1) := by decide +kernel
theorem dX6_lay_7 : decode cX6_lay 7 = .ok (.putfield 19, 3) := by decide +kernel
theorem dX6_lay_10 : decode cX6_lay 10 = .ok (.aload_n 0, 1) := by decide +kernel
theorem dX6_lay_11 : decode cX6_lay 11 = .ok (.iload_n 2, 1) := by decide +kernel
theorem dX6_lay_12 : decode cX6_lay 12 = .ok (.putfield 23, 3) := by decide +kernel
theorem dX6_lay_15 : decode cX6_lay 15 = .ok (.iconst 0, 1) := by decide +kernel
theorem dX6_lay_16 : decode cX6_lay 16 = .ok (.istore_n 3, 1) := by decide +kernel
theorem dX6_lay_17 : decode cX6_lay 17 = .ok (.iload_n 3, 1) := by decide +kernel
theorem dX6_lay_18 : decode cX6_lay 18 = .ok (.bipush 40, 2) := by decide +kernel
theorem dX6_lay_20 : decode cX6_lay 20 = .ok (.if_icmp .ge 16, 3) := by decide +kernel
theorem dX6_lay_23 : decode cX6_lay 23 = .ok (.aload_n 0, 1) := by decide +kernel
theorem dX6_lay_24 : decode cX6_lay 24 = .ok (.getfield 15, 3) := by decide +kernel
theorem dX6_lay_27 : decode cX6_lay 27 = .ok (.iload_n 3, 1) := by decide +kernel
theorem dX6_lay_28 : decode cX6_lay 28 = .ok (.iconst 0, 1) := by decide +kernel
theorem dX6_lay_29 : decode cX6_lay 29 = .ok (.iastore, 1) := by decide +kernel
theorem dX6_lay_30 : decode cX6_lay 30 = .ok (.iinc 3 1, 3) := by decide +kernel
theorem dX6_lay_33 : decode cX6_lay 33 = .ok (.goto (-16), 3) := by decide +kernel
theorem dX6_lay_36 : decode cX6_lay 36 = .ok (.return_, 1) := by decide +kernel
theorem dX6_holds_0 : decode cX6_holds 0 = .ok (.iload_n 1, 1) := by decide +kernel
theorem dX6_holds_1 : decode cX6_holds 1 = .ok (.ifCond .lt 29, 3) := by decide +kernel
theorem dX6_holds_4 : decode cX6_holds 4 = .ok (.iload_n 2, 1) := by decide +kernel
theorem dX6_holds_5 : decode cX6_holds 5 = .ok (.ifCond .lt 25, 3) := by decide +kernel
theorem dX6_holds_8 : decode cX6_holds 8 = .ok (.iload_n 1, 1) := by decide +kernel
theorem dX6_holds_9 : decode cX6_holds 9 = .ok (.aload_n 0, 1) := by decide +kernel
theorem dX6_holds_10 : decode cX6_holds 10 = .ok (.getfield 23, 3) := by decide +kernel
theorem dX6_holds_13 : decode cX6_holds 13 = .ok (.if_icmp .gt 17, 3) := by decide +kernel
theorem dX6_holds_16 : decode cX6_holds 16 = .ok (.iload_n 2, 1) := by decide +kernel
theorem dX6_holds_17 : decode cX6_holds 17 = .ok (.aload_n 0, 1) := by decide +kernel
theorem dX6_holds_18 : decode cX6_holds 18 = .ok (.getfield 23, 3) := by decide +kernel
theorem dX6_holds_21 : decode cX6_holds 21 = .ok (.iload_n 1, 1) := by decide +kernel
theorem dX6_holds_22 : decode cX6_holds 22 = .ok (.isub, 1) := by decide +kernel
theorem dX6_holds_23 : decode cX6_holds 23 = .ok (.if_icmp .gt 7, 3) := by decide +kernel
theorem dX6_holds_26 : decode cX6_holds 26 = .ok (.iconst 1, 1) := by decide +kernel
theorem dX6_holds_27 : decode cX6_holds 27 = .ok (.goto 4, 3) := by decide +kernel
theorem dX6_holds_30 : decode cX6_holds 30 = .ok (.iconst 0, 1) := by decide +kernel
theorem dX6_holds_31 : decode cX6_holds 31 = .ok (.ireturn, 1) := by decide +kernel
theorem dX6_cut_0 : decode cX6_cut 0 = .ok (.aload_n 0, 1) := by decide +kernel
theorem dX6_cut_1 : decode cX6_cut 1 = .ok (.getfield 19, 3) := by decide +kernel
theorem dX6_cut_4 : decode cX6_cut 4 = .ok (.ifCond .ne 8, 3) := by decide +kernel
theorem dX6_cut_7 : decode cX6_cut 7 = .ok (.iload_n 1, 1) := by decide +kernel
theorem dX6_cut_8 : decode cX6_cut 8 = .ok (.i2b, 1) := by decide +kernel
theorem dX6_cut_9 : decode cX6_cut 9 = .ok (.goto 17, 3) := by decide +kernel
theorem dX6_cut_12 : decode cX6_cut 12 = .ok (.aload_n 0, 1) := by decide +kernel
theorem dX6_cut_13 : decode cX6_cut 13 = .ok (.getfield 19, 3) := by decide +kernel
theorem dX6_cut_16 : decode cX6_cut 16 = .ok (.iconst 1, 1) := by decide +kernel
theorem dX6_cut_17 : decode cX6_cut 17 = .ok (.if_icmp .ne 8, 3) := by decide +kernel
theorem dX6_cut_20 : decode cX6_cut 20 = .ok (.iload_n 1, 1) := by decide +kernel
theorem dX6_cut_21 : decode cX6_cut 21 = .ok (.i2s, 1) := by decide +kernel
theorem dX6_cut_22 : decode cX6_cut 22 = .ok (.goto 4, 3) := by decide +kernel
theorem dX6_cut_25 : decode cX6_cut 25 = .ok (.iload_n 1, 1) := by decide +kernel
theorem dX6_cut_26 : decode cX6_cut 26 = .ok (.ireturn, 1) := by decide +kernel
theorem dX7_init_0 : decode cX7_init 0 = .ok (.aload_n 0, 1) := by decide +kernel
theorem dX7_init_1 : decode cX7_init 1 = .ok (.invokespecial 3, 3) := by decide +kernel
theorem dX7_init_4 : decode cX7_init 4 = .ok (.aload_n 0, 1) := by decide +kernel
theorem dX7_init_5 : decode cX7_init 5 = .ok (.bipush 8, 2) := by decide +kernel
theorem dX7_init_7 : decode cX7_init 7 = .ok (.iconst 5, 1) := by decide +kernel
theorem dX7_init_8 : decode cX7_init 8 = .ok (.multianewarray 9 2, 4) := by decide +kernel
theorem dX7_init_12 : decode cX7_init 12 = .ok (.putfield 11, 3) := by decide +kernel
theorem dX7_init_15 : decode cX7_init 15 = .ok (.aload_n 0, 1) := by decide +kernel
theorem dX7_init_16 : decode cX7_init 16 = .ok (.bipush 6, 2) := by decide +kernel
theorem dX7_init_18 : decode cX7_init 18 = .ok (.iconst 4, 1) := by decide +kernel
theorem dX7_init_19 : decode cX7_init 19 = .ok (.multianewarray 9 2, 4) := by decide +kernel
theorem dX7_init_23 : decode cX7_init 23 = .ok (.putfield 18, 3) := by decide +kernel
theorem dX7_init_26 : decode cX7_init 26 = .ok (.return_, 1) := by decide +kernel
theorem dX7_become_0 : decode cX7_become 0 = .ok (.aload_n 0, 1) := by decide +kernel
theorem dX7_become_1 : decode cX7_become 1 = .ok (.aload_n 1, 1) := by decide +kernel
theorem dX7_become_2 : decode cX7_become 2 = .ok (.getfield 21, 3) := by decide +kernel
theorem dX7_become_5 : decode cX7_become 5 = .ok (.putfield 21, 3) := by decide +kernel
theorem dX7_become_8 : decode cX7_become 8 = .ok (.aload_n 0, 1) := by decide +kernel
theorem dX7_become_9 : decode cX7_become 9 = .ok (.aload_n 1, 1) := by decide +kernel
theorem dX7_become_10 : decode cX7_become 10 = .ok (.getfield 25, 3) := by decide +kernel
theorem dX7_become_13 : decode cX7_become 13 = .ok (.putfield 25, 3) := by decide +kernel
theorem dX7_become_16 : decode cX7_become 16 = .ok (.iconst 0, 1) := by decide +kernel
theorem dX7_become_17 : decode cX7_become 17 = .ok (.istore_n 2, 1) := by decide +kernel
theorem dX7_become_18 : decode cX7_become 18 = .ok (.iload_n 2, 1) := by decide +kernel
theorem dX7_become_19 : decode cX7_become 19 = .ok (.bipush 8, 2) := by decide +kernel
theorem dX7_become_21 : decode cX7_become 21 = .ok (.if_icmp .ge 27, 3) := by decide +kernel
theorem dX7_become_24 : decode cX7_become 24 = .ok (.aload_n 1, 1) := by decide +kernel
theorem dX7_become_25 : decode cX7_become 25 = .ok (.getfield 11, 3) := by decide +kernel
theorem dX7_become_28 : decode cX7_become 28 = .ok (.iload_n 2, 1) := by decide +kernel
theorem dX7_become_29 : decode cX7_become 29 = .ok (.aaload, 1) := by decide +kernel
theorem dX7_become_30 : decode cX7_become 30 = .ok (.iconst 0, 1) := by decide +kernel
theorem dX7_become_31 : decode cX7_become 31 = .ok (.aload_n 0, 1) := by decide +kernel
theorem dX7_become_32 : decode cX7_become 32 = .ok (.getfield 11, 3) := by decide +kernel
theorem dX7_become_35 : decode cX7_become 35 = .ok (.iload_n 2, 1) := by decide +kernel
theorem dX7_become_36 : decode cX7_become 36 = .ok (.aaload, 1) := by decide +kernel
theorem dX7_become_37 : decode cX7_become 37 = .ok (.iconst 0, 1) := by decide +kernel
theorem dX7_become_38 : decode cX7_become 38 = .ok (.iconst 5, 1) := by decide +kernel
theorem dX7_become_39 : decode cX7_become 39 = .ok (.invokestatic 28, 3) := by decide +kernel
theorem dX7_become_42 : decode cX7_become 42 = .ok (.iinc 2 1, 3) := by decide +kernel
theorem dX7_become_45 : decode cX7_become 45 = .ok (.goto (-27), 3) := by decide +kernel
theorem dX7_become_48 : decode cX7_become 48 = .ok (.iconst 0, 1) := by decide +kernel
theorem dX7_become_49 : decode cX7_become 49 = .ok (.istore_n 2, 1) := by decide +kernel
theorem dX7_become_50 : decode cX7_become 50 = .ok (.iload_n 2, 1) := by decide +kernel
theorem dX7_become_51 : decode cX7_become 51 = .ok (.bipush 6, 2) := by decide +kernel
theorem dX7_become_53 : decode cX7_become 53 = .ok (.if_icmp .ge 27, 3) := by decide +kernel
theorem dX7_become_56 : decode cX7_become 56 = .ok (.aload_n 1, 1) := by decide +kernel
theorem dX7_become_57 : decode cX7_become 57 = .ok (.getfield 18, 3) := by decide +kernel
theorem dX7_become_60 : decode cX7_become 60 = .ok (.iload_n 2, 1) := by decide +kernel
theorem dX7_become_61 : decode cX7_become 61 = .ok (.aaload, 1) := by decide +kernel
theorem dX7_become_62 : decode cX7_become 62 = .ok (.iconst 0, 1) := by decide +kernel
theorem dX7_become_63 : decode cX7_become 63 = .ok (.aload_n 0, 1) := by decide +kernel
theorem dX7_become_64 : decode cX7_become 64 = .ok (.getfield 18, 3) := by decide +kernel
theorem dX7_become_67 : decode cX7_become 67 = .ok (.iload_n 2, 1) := by decide +kernel
theorem dX7_become_68 : decode cX7_become 68 = .ok (.aaload, 1) := by decide +kernel
theorem dX7_become_69 : decode cX7_become 69 = .ok (.iconst 0, 1) := by decide +kernel
theorem dX7_become_70 : decode cX7_become 70 = .ok (.iconst 4, 1) := by decide +kernel
theorem dX7_become_71 : decode cX7_become 71 = .ok (.invokestatic 28, 3) := by decide +kernel
theorem dX7_become_74 : decode cX7_become 74 = .ok (.iinc 2 1, 3) := by decide +kernel
theorem dX7_become_77 : decode cX7_become 77 = .ok (.goto (-27), 3) := by decide +kernel
theorem dX7_become_80 : decode cX7_become 80 = .ok (.return_, 1) := by decide +kernel
theorem dX7_strongestTenth_0 : decode cX7_strongestTenth 0 = .ok (.iconst 0, 1) := by decide +kernel
theorem dX7_strongestTenth_1 : decode cX7_strongestTenth 1 = .ok (.istore_n 2, 1) := by decide +kernel
theorem dX7_strongestTenth_2 : decode cX7_strongestTenth 2 = .ok (.iconst 1, 1) := by decide +kernel
theorem dX7_strongestTenth_3 : decode cX7_strongestTenth 3 = .ok (.istore_n 3, 1) := by decide +kernel
theorem dX7_strongestTenth_4 : decode cX7_strongestTenth 4 = .ok (.iload_n 3, 1) := by decide +kernel
theorem dX7_strongestTenth_5 : decode cX7_strongestTenth 5 = .ok (.iconst 5, 1) := by decide +kernel
theorem dX7_strongestTenth_6 : decode cX7_strongestTenth 6 = .ok (.if_icmp .gt 26, 3) := by decide +kernel
theorem dX7_strongestTenth_9 : decode cX7_strongestTenth 9 = .ok (.aload_n 0, 1) := by decide +kernel
theorem dX7_strongestTenth_10 : decode cX7_strongestTenth 10 = .ok (.iload_n 3, 1) := by decide +kernel
theorem dX7_strongestTenth_11 : decode cX7_strongestTenth 11 = .ok (.iload_n 1, 1) := by decide +kernel
theorem dX7_strongestTenth_12 : decode cX7_strongestTenth 12 = .ok (.invokevirtual 34, 3) := by decide +kernel
theorem dX7_strongestTenth_15 : decode cX7_strongestTenth 15 = .ok (.aload_n 0, 1) := by decide +kernel
theorem dX7_strongestTenth_16 : decode cX7_strongestTenth 16 = .ok (.iload_n 2, 1) := by decide +kernel
theorem dX7_strongestTenth_17 : decode cX7_strongestTenth 17 = .ok (.iload_n 1, 1) := by decide +kernel
theorem dX7_strongestTenth_18 : decode cX7_strongestTenth 18 = .ok (.invokevirtual 34, 3) := by decide +kernel
theorem dX7_strongestTenth_21 : decode cX7_strongestTenth 21 = .ok (.if_icmp .le 5, 3) := by decide +kernel
theorem dX7_strongestTenth_24 : decode cX7_strongestTenth 24 = .ok (.iload_n 3, 1) := by decide +kernel
theorem dX7_strongestTenth_25 : decode cX7_strongestTenth 25 = .ok (.istore_n 2, 1) := by decide +kernel
theorem dX7_strongestTenth_26 : decode cX7_strongestTenth 26 = .ok (.iinc 3 1, 3) := by decide +kernel
theorem dX7_strongestTenth_29 : decode cX7_strongestTenth 29 = .ok (.goto (-25), 3) := by decide +kernel
theorem dX7_strongestTenth_32 : decode cX7_strongestTenth 32 = .ok (.iload_n 2, 1) := by decide +kernel
theorem dX7_strongestTenth_33 : decode cX7_strongestTenth 33 = .ok (.ireturn, 1) := by decide +kernel
theorem dX7_forceTogether_0 : decode cX7_forceTogether 0 = .ok (.iconst 0, 1) := by decide +kernel
theorem dX7_forceTogether_1 : decode cX7_forceTogether 1 = .ok (.istore_n 3, 1) := by decide +kernel
theorem dX7_forceTogether_2 : decode cX7_forceTogether 2 = .ok (.iconst 0, 1) := by decide +kernel
theorem dX7_forceTogether_3 : decode cX7_forceTogether 3 = .ok (.istore 4, 2) := by decide +kernel
theorem dX7_forceTogether_5 : decode cX7_forceTogether 5 = .ok (.iload 4, 2) := by decide +kernel
theorem dX7_forceTogether_7 : decode cX7_forceTogether 7 = .ok (.aload_n 0, 1) := by decide +kernel
theorem dX7_forceTogether_8 : decode cX7_forceTogether 8 = .ok (.getfield 21, 3) := by decide +kernel
theorem dX7_forceTogether_11 : decode cX7_forceTogether 11 = .ok (.if_icmp .ge 54, 3) := by decide +kernel
theorem dX7_forceTogether_14 : decode cX7_forceTogether 14 = .ok (.aload_n 0, 1) := by decide +kernel
theorem dX7_forceTogether_15 : decode cX7_forceTogether 15 = .ok (.getfield 11, 3) := by decide +kernel
theorem dX7_forceTogether_18 : decode cX7_forceTogether 18 = .ok (.iload 4, 2) := by decide +kernel
theorem dX7_forceTogether_20 : decode cX7_forceTogether 20 = .ok (.aaload, 1) := by decide +kernel
theorem dX7_forceTogether_21 : decode cX7_forceTogether 21 = .ok (.iconst 4, 1) := by decide +kernel
theorem dX7_forceTogether_22 : decode cX7_forceTogether 22 = .ok (.iaload, 1) := by decide +kernel
theorem dX7_forceTogether_23 : decode cX7_forceTogether 23 = .ok (.iload_n 2, 1) := by decide +kernel
theorem dX7_forceTogether_24 : decode cX7_forceTogether 24 = .ok (.invokestatic 38, 3) := by decide +kernel
theorem dX7_forceTogether_27 : decode cX7_forceTogether 27 = .ok (.iload_n 1, 1) := by decide +kernel
theorem dX7_forceTogether_28 : decode cX7_forceTogether 28 = .ok (.if_icmp .ne 7, 3) := by decide +kernel
theorem dX7_forceTogether_31 : decode cX7_forceTogether 31 = .ok (.iconst 1, 1) := by decide +kernel
theorem dX7_forceTogether_32 : decode cX7_forceTogether 32 = .ok (.goto 4, 3) := by decide +kernel
theorem dX7_forceTogether_35 : decode cX7_forceTogether 35 = .ok (.iconst 0, 1) := by decide +kernel
theorem dX7_forceTogether_36 : decode cX7_forceTogether 36 = .ok (.istore 5, 2) := by decide +kernel
theorem dX7_forceTogether_38 : decode cX7_forceTogether 38 = .ok (.iload_n 3, 1) := by decide +kernel
theorem dX7_forceTogether_39 : decode cX7_forceTogether 39 = .ok (.aload_n 0, 1) := by decide +kernel
theorem dX7_forceTogether_40 : decode cX7_forceTogether 40 = .ok (.getfield 11, 3) := by decide +kernel
theorem dX7_forceTogether_43 : decode cX7_forceTogether 43 = .ok (.iload 4, 2) := by decide +kernel
theorem dX7_forceTogether_45 : decode cX7_forceTogether 45 = .ok (.aaload, 1) := by decide +kernel
theorem dX7_forceTogether_46 : decode cX7_forceTogether 46 = .ok (.iload 5, 2) := by decide +kernel
theorem dX7_forceTogether_48 : decode cX7_forceTogether 48 = .ok (.ifCond .eq 7, 3) := by decide +kernel
theorem dX7_forceTogether_51 : decode cX7_forceTogether 51 = .ok (.iconst 2, 1) := by decide +kernel
theorem dX7_forceTogether_52 : decode cX7_forceTogether 52 = .ok (.goto 4, 3) := by decide +kernel
theorem dX7_forceTogether_55 : decode cX7_forceTogether 55 = .ok (.iconst 1, 1) := by decide +kernel
theorem dX7_forceTogether_56 : decode cX7_forceTogether 56 = .ok (.iaload, 1) := by decide +kernel
theorem dX7_forceTogether_57 : decode cX7_forceTogether 57 = .ok (.iadd, 1) := by decide +kernel
theorem dX7_forceTogether_58 : decode cX7_forceTogether 58 = .ok (.istore_n 3, 1) := by decide +kernel
theorem dX7_forceTogether_59 : decode cX7_forceTogether 59 = .ok (.iinc 4 1, 3) := by decide +kernel
theorem dX7_forceTogether_62 : decode cX7_forceTogether 62 = .ok (.goto (-57), 3) := by decide +kernel
theorem dX7_forceTogether_65 : decode cX7_forceTogether 65 = .ok (.iload_n 3, 1) := by decide +kernel
theorem dX7_forceTogether_66 : decode cX7_forceTogether 66 = .ok (.ireturn, 1) := by decide +kernel
theorem dX7_practised_0 : decode cX7_practised 0 = .ok (.iload_n 0, 1) := by decide +kernel
theorem dX7_practised_1 : decode cX7_practised 1 = .ok (.istore_n 2, 1) := by decide +kernel
theorem dX7_practised_2 : decode cX7_practised 2 = .ok (.iconst 0, 1) := by decide +kernel
theorem dX7_practised_3 : decode cX7_practised 3 = .ok (.istore_n 3, 1) := by decide +kernel
theorem dX7_practised_4 : decode cX7_practised 4 = .ok (.iload_n 3, 1) := by decide +kernel
theorem dX7_practised_5 : decode cX7_practised 5 = .ok (.iload_n 1, 1) := by decide +kernel
theorem dX7_practised_6 : decode cX7_practised 6 = .ok (.if_icmp .ge 17, 3) := by decide +kernel
theorem dX7_practised_9 : decode cX7_practised 9 = .ok (.iload_n 2, 1) := by decide +kernel
theorem dX7_practised_10 : decode cX7_practised 10 = .ok (.bipush 9, 2) := by decide +kernel
theorem dX7_practised_12 : decode cX7_practised 12 = .ok (.imul, 1) := by decide +kernel
theorem dX7_practised_13 : decode cX7_practised 13 = .ok (.bipush 10, 2) := by decide +kernel
theorem dX7_practised_15 : decode cX7_practised 15 = .ok (.idiv, 1) := by decide +kernel
theorem dX7_practised_16 : decode cX7_practised 16 = .ok (.istore_n 2, 1) := by decide +kernel
theorem dX7_practised_17 : decode cX7_practised 17 = .ok (.iinc 3 1, 3) := by decide +kernel
theorem dX7_practised_20 : decode cX7_practised 20 = .ok (.goto (-16), 3) := by decide +kernel
theorem dX7_practised_23 : decode cX7_practised 23 = .ok (.iload_n 2, 1) := by decide +kernel
theorem dX7_practised_24 : decode cX7_practised 24 = .ok (.ireturn, 1) := by decide +kernel
theorem dJ6_compare_7cf53_0 : decode cJ6_compare_7cf53 0 = .ok (.iload_n 0, 1) := by decide +kernel
theorem dJ6_compare_7cf53_1 : decode cJ6_compare_7cf53 1 = .ok (.iload_n 1, 1) := by decide +kernel
theorem dJ6_compare_7cf53_2 : decode cJ6_compare_7cf53 2 = .ok (.if_icmp .ge 7, 3) := by decide +kernel
theorem dJ6_compare_7cf53_5 : decode cJ6_compare_7cf53 5 = .ok (.iconst (-1), 1) := by decide +kernel
theorem dJ6_compare_7cf53_6 : decode cJ6_compare_7cf53 6 = .ok (.goto 13, 3) := by decide +kernel
theorem dJ6_compare_7cf53_9 : decode cJ6_compare_7cf53 9 = .ok (.iload_n 0, 1) := by decide +kernel
theorem dJ6_compare_7cf53_10 : decode cJ6_compare_7cf53 10 = .ok (.iload_n 1, 1) := by decide +kernel
theorem dJ6_compare_7cf53_11 : decode cJ6_compare_7cf53 11 = .ok (.if_icmp .ne 7, 3) := by decide +kernel
theorem dJ6_compare_7cf53_14 : decode cJ6_compare_7cf53 14 = .ok (.iconst 0, 1) := by decide +kernel
theorem dJ6_compare_7cf53_15 : decode cJ6_compare_7cf53 15 = .ok (.goto 4, 3) := by decide +kernel
theorem dJ6_compare_7cf53_18 : decode cJ6_compare_7cf53 18 = .ok (.iconst 1, 1) := by decide +kernel
theorem dJ6_compare_7cf53_19 : decode cJ6_compare_7cf53 19 = .ok (.ireturn, 1) := by decide +kernel
theorem dJ6_bitCount_0f7a4_0 : decode cJ6_bitCount_0f7a4 0 = .ok (.iload_n 0, 1) := by decide +kernel
theorem dJ6_bitCount_0f7a4_1 : decode cJ6_bitCount_0f7a4 1 = .ok (.iload_n 0, 1) := by decide +kernel
theorem dJ6_bitCount_0f7a4_2 : decode cJ6_bitCount_0f7a4 2 = .ok (.iconst 1, 1) := by decide +kernel
theorem dJ6_bitCount_0f7a4_3 : decode cJ6_bitCount_0f7a4 3 = .ok (.iushr, 1) := by decide +kernel
theorem dJ6_bitCount_0f7a4_4 : decode cJ6_bitCount_0f7a4 4 = .ok (.ldc_w 265, 3) := by decide +kernel
theorem dJ6_bitCount_0f7a4_7 : decode cJ6_bitCount_0f7a4 7 = .ok (.iand, 1) := by decide +kernel
theorem dJ6_bitCount_0f7a4_8 : decode cJ6_bitCount_0f7a4 8 = .ok (.isub, 1) := by decide +kernel
theorem dJ6_bitCount_0f7a4_9 : decode cJ6_bitCount_0f7a4 9 = .ok (.istore_n 0, 1) := by decide +kernel
theorem dJ6_bitCount_0f7a4_10 : decode cJ6_bitCount_0f7a4 10 = .ok (.iload_n 0, 1) := by decide +kernel
theorem dJ6_bitCount_0f7a4_11 : decode cJ6_bitCount_0f7a4 11 = .ok (.ldc_w 266, 3) := by decide +kernel
theorem dJ6_bitCount_0f7a4_14 : decode cJ6_bitCount_0f7a4 14 = .ok (.iand, 1) := by decide +kernel
theorem dJ6_bitCount_0f7a4_15 : decode cJ6_bitCount_0f7a4 15 = .ok (.iload_n 0, 1) := by decide +kernel
theorem dJ6_bitCount_0f7a4_16 : decode cJ6_bitCount_0f7a4 16 = .ok (.iconst 2, 1) := by decide +kernel
theorem dJ6_bitCount_0f7a4_17 : decode cJ6_bitCount_0f7a4 17 = .ok (.iushr, 1) := by decide +kernel
theorem dJ6_bitCount_0f7a4_18 : decode cJ6_bitCount_0f7a4 18 = .ok (.ldc_w 266, 3) := by decide +kernel
theorem dJ6_bitCount_0f7a4_21 : decode cJ6_bitCount_0f7a4 21 = .ok (.iand, 1) := by decide +kernel
theorem dJ6_bitCount_0f7a4_22 : decode cJ6_bitCount_0f7a4 22 = .ok (.iadd, 1) := by decide +kernel
theorem dJ6_bitCount_0f7a4_23 : decode cJ6_bitCount_0f7a4 23 = .ok (.istore_n 0, 1) := by decide +kernel
theorem dJ6_bitCount_0f7a4_24 : decode cJ6_bitCount_0f7a4 24 = .ok (.iload_n 0, 1) := by decide +kernel
theorem dJ6_bitCount_0f7a4_25 : decode cJ6_bitCount_0f7a4 25 = .ok (.iload_n 0, 1) := by decide +kernel
theorem dJ6_bitCount_0f7a4_26 : decode cJ6_bitCount_0f7a4 26 = .ok (.iconst 4, 1) := by decide +kernel
theorem dJ6_bitCount_0f7a4_27 : decode cJ6_bitCount_0f7a4 27 = .ok (.iushr, 1) := by decide +kernel
theorem dJ6_bitCount_0f7a4_28 : decode cJ6_bitCount_0f7a4 28 = .ok (.iadd, 1) := by decide +kernel
theorem dJ6_bitCount_0f7a4_29 : decode cJ6_bitCount_0f7a4 29 = .ok (.ldc_w 267, 3) := by decide +kernel
theorem dJ6_bitCount_0f7a4_32 : decode cJ6_bitCount_0f7a4 32 = .ok (.iand, 1) := by decide +kernel
theorem dJ6_bitCount_0f7a4_33 : decode cJ6_bitCount_0f7a4 33 = .ok (.istore_n 0, 1) := by decide +kernel
theorem dJ6_bitCount_0f7a4_34 : decode cJ6_bitCount_0f7a4 34 = .ok (.iload_n 0, 1) := by decide +kernel
theorem dJ6_bitCount_0f7a4_35 : decode cJ6_bitCount_0f7a4 35 = .ok (.iload_n 0, 1) := by decide +kernel
theorem dJ6_bitCount_0f7a4_36 : decode cJ6_bitCount_0f7a4 36 = .ok (.bipush 8, 2) := by decide +kernel
theorem dJ6_bitCount_0f7a4_38 : decode cJ6_bitCount_0f7a4 38 = .ok (.iushr, 1) := by decide +kernel
theorem dJ6_bitCount_0f7a4_39 : decode cJ6_bitCount_0f7a4 39 = .ok (.iadd, 1) := by decide +kernel
theorem dJ6_bitCount_0f7a4_40 : decode cJ6_bitCount_0f7a4 40 = .ok (.istore_n 0, 1) := by decide +kernel
theorem dJ6_bitCount_0f7a4_41 : decode cJ6_bitCount_0f7a4 41 = .ok (.iload_n 0, 1) := by decide +kernel
theorem dJ6_bitCount_0f7a4_42 : decode cJ6_bitCount_0f7a4 42 = .ok (.iload_n 0, 1) := by decide +kernel
theorem dJ6_bitCount_0f7a4_43 : decode cJ6_bitCount_0f7a4 43 = .ok (.bipush 16, 2) := by decide +kernel
theorem dJ6_bitCount_0f7a4_45 : decode cJ6_bitCount_0f7a4 45 = .ok (.iushr, 1) := by decide +kernel
theorem dJ6_bitCount_0f7a4_46 : decode cJ6_bitCount_0f7a4 46 = .ok (.iadd, 1) := by decide +kernel
theorem dJ6_bitCount_0f7a4_47 : decode cJ6_bitCount_0f7a4 47 = .ok (.istore_n 0, 1) := by decide +kernel
theorem dJ6_bitCount_0f7a4_48 : decode cJ6_bitCount_0f7a4 48 = .ok (.iload_n 0, 1) := by decide +kernel
theorem dJ6_bitCount_0f7a4_49 : decode cJ6_bitCount_0f7a4 49 = .ok (.bipush 63, 2) := by decide +kernel
theorem dJ6_bitCount_0f7a4_51 : decode cJ6_bitCount_0f7a4 51 = .ok (.iand, 1) := by decide +kernel
theorem dJ6_bitCount_0f7a4_52 : decode cJ6_bitCount_0f7a4 52 = .ok (.ireturn, 1) := by decide +kernel
theorem dJ9_abs_0f7a4_0 : decode cJ9_abs_0f7a4 0 = .ok (.iload_n 0, 1) := by decide +kernel
theorem dJ9_abs_0f7a4_1 : decode cJ9_abs_0f7a4 1 = .ok (.ifCond .ge 8, 3) := by decide +kernel
theorem dJ9_abs_0f7a4_4 : decode cJ9_abs_0f7a4 4 = .ok (.iload_n 0, 1) := by decide +kernel
theorem dJ9_abs_0f7a4_5 : decode cJ9_abs_0f7a4 5 = .ok (.ineg, 1) := by decide +kernel
theorem dJ9_abs_0f7a4_6 : decode cJ9_abs_0f7a4 6 = .ok (.goto 4, 3) := by decide +kernel
theorem dJ9_abs_0f7a4_9 : decode cJ9_abs_0f7a4 9 = .ok (.iload_n 0, 1) := by decide +kernel
theorem dJ9_abs_0f7a4_10 : decode cJ9_abs_0f7a4 10 = .ok (.ireturn, 1) := by decide +kernel
theorem dJ9_max_7cf53_0 : decode cJ9_max_7cf53 0 = .ok (.iload_n 0, 1) := by decide +kernel
theorem dJ9_max_7cf53_1 : decode cJ9_max_7cf53 1 = .ok (.iload_n 1, 1) := by decide +kernel
theorem dJ9_max_7cf53_2 : decode cJ9_max_7cf53 2 = .ok (.if_icmp .lt 7, 3) := by decide +kernel
theorem dJ9_max_7cf53_5 : decode cJ9_max_7cf53 5 = .ok (.iload_n 0, 1) := by decide +kernel
theorem dJ9_max_7cf53_6 : decode cJ9_max_7cf53 6 = .ok (.goto 4, 3) := by decide +kernel
theorem dJ9_max_7cf53_9 : decode cJ9_max_7cf53 9 = .ok (.iload_n 1, 1) := by decide +kernel
theorem dJ9_max_7cf53_10 : decode cJ9_max_7cf53 10 = .ok (.ireturn, 1) := by decide +kernel
theorem dJ9_min_7cf53_0 : decode cJ9_min_7cf53 0 = .ok (.iload_n 0, 1) := by decide +kernel
theorem dJ9_min_7cf53_1 : decode cJ9_min_7cf53 1 = .ok (.iload_n 1, 1) := by decide +kernel
theorem dJ9_min_7cf53_2 : decode cJ9_min_7cf53 2 = .ok (.if_icmp .gt 7, 3) := by decide +kernel
theorem dJ9_min_7cf53_5 : decode cJ9_min_7cf53 5 = .ok (.iload_n 0, 1) := by decide +kernel
theorem dJ9_min_7cf53_6 : decode cJ9_min_7cf53 6 = .ok (.goto 4, 3) := by decide +kernel
theorem dJ9_min_7cf53_9 : decode cJ9_min_7cf53 9 = .ok (.iload_n 1, 1) := by decide +kernel
theorem dJ9_min_7cf53_10 : decode cJ9_min_7cf53 10 = .ok (.ireturn, 1) := by decide +kernel
theorem dJ0_length_8abf5_0 : decode cJ0_length_8abf5 0 = .ok (.aload_n 0, 1) := by decide +kernel
theorem dJ0_length_8abf5_1 : decode cJ0_length_8abf5 1 = .ok (.getfield 9, 3) := by decide +kernel
theorem dJ0_length_8abf5_4 : decode cJ0_length_8abf5 4 = .ok (.arraylength, 1) := by decide +kernel
theorem dJ0_length_8abf5_5 : decode cJ0_length_8abf5 5 = .ok (.aload_n 0, 1) := by decide +kernel
theorem dJ0_length_8abf5_6 : decode cJ0_length_8abf5 6 = .ok (.invokevirtual 335, 3) := by decide +kernel
theorem dJ0_length_8abf5_9 : decode cJ0_length_8abf5 9 = .ok (.ishr, 1) := by decide +kernel
theorem dJ0_length_8abf5_10 : decode cJ0_length_8abf5 10 = .ok (.ireturn, 1) := by decide +kernel
theorem dJ0_charAt_5068e_0 : decode cJ0_charAt_5068e 0 = .ok (.aload_n 0, 1) := by decide +kernel
theorem dJ0_charAt_5068e_1 : decode cJ0_charAt_5068e 1 = .ok (.invokevirtual 492, 3) := by decide +kernel
theorem dJ0_charAt_5068e_4 : decode cJ0_charAt_5068e 4 = .ok (.ifCond .eq 12, 3) := by decide +kernel
theorem dJ0_charAt_5068e_7 : decode cJ0_charAt_5068e 7 = .ok (.aload_n 0, 1) := by decide +kernel
theorem dJ0_charAt_5068e_8 : decode cJ0_charAt_5068e 8 = .ok (.getfield 9, 3) := by decide +kernel
theorem dJ0_charAt_5068e_11 : decode cJ0_charAt_5068e 11 = .ok (.iload_n 1, 1) := by decide +kernel
theorem dJ0_charAt_5068e_12 : decode cJ0_charAt_5068e 12 = .ok (.invokestatic 495, 3) := by decide +kernel
theorem dJ0_charAt_5068e_15 : decode cJ0_charAt_5068e 15 = .ok (.ireturn, 1) := by decide +kernel
theorem dJ0_charAt_5068e_16 : decode cJ0_charAt_5068e 16 = .ok (.aload_n 0, 1) := by decide +kernel
theorem dJ0_charAt_5068e_17 : decode cJ0_charAt_5068e 17 = .ok (.getfield 9, 3) := by decide +kernel
theorem dJ0_charAt_5068e_20 : decode cJ0_charAt_5068e 20 = .ok (.iload_n 1, 1) := by decide +kernel
theorem dJ0_charAt_5068e_21 : decode cJ0_charAt_5068e 21 = .ok (.invokestatic 498, 3) := by decide +kernel
theorem dJ0_charAt_5068e_24 : decode cJ0_charAt_5068e 24 = .ok (.ireturn, 1) := by decide +kernel
theorem dJ0_coder_7d493_0 : decode cJ0_coder_7d493 0 = .ok (.getstatic 38, 3) := by decide +kernel
theorem dJ0_coder_7d493_3 : decode cJ0_coder_7d493 3 = .ok (.ifCond .eq 10, 3) := by decide +kernel
theorem dJ0_coder_7d493_6 : decode cJ0_coder_7d493 6 = .ok (.aload_n 0, 1) := by decide +kernel
theorem dJ0_coder_7d493_7 : decode cJ0_coder_7d493 7 = .ok (.getfield 15, 3) := by decide +kernel
theorem dJ0_coder_7d493_10 : decode cJ0_coder_7d493 10 = .ok (.goto 4, 3) := by decide +kernel
theorem dJ0_coder_7d493_13 : decode cJ0_coder_7d493 13 = .ok (.iconst 1, 1) := by decide +kernel
theorem dJ0_coder_7d493_14 : decode cJ0_coder_7d493 14 = .ok (.ireturn, 1) := by decide +kernel
theorem dJ0_isLatin1_aae02_0 : decode cJ0_isLatin1_aae02 0 = .ok (.getstatic 38, 3) := by decide +kernel
theorem dJ0_isLatin1_aae02_3 : decode cJ0_isLatin1_aae02 3 = .ok (.ifCond .eq 14, 3) := by decide +kernel
theorem dJ0_isLatin1_aae02_6 : decode cJ0_isLatin1_aae02 6 = .ok (.aload_n 0, 1) := by decide +kernel
theorem dJ0_isLatin1_aae02_7 : decode cJ0_isLatin1_aae02 7 = .ok (.getfield 15, 3) := by decide +kernel
theorem dJ0_isLatin1_aae02_10 : decode cJ0_isLatin1_aae02 10 = .ok (.ifCond .ne 7, 3) := by decide +kernel
theorem dJ0_isLatin1_aae02_13 : decode cJ0_isLatin1_aae02 13 = .ok (.iconst 1, 1) := by decide +kernel
theorem dJ0_isLatin1_aae02_14 : decode cJ0_isLatin1_aae02 14 = .ok (.goto 4, 3) := by decide +kernel
theorem dJ0_isLatin1_aae02_17 : decode cJ0_isLatin1_aae02 17 = .ok (.iconst 0, 1) := by decide +kernel
theorem dJ0_isLatin1_aae02_18 : decode cJ0_isLatin1_aae02 18 = .ok (.ireturn, 1) := by decide +kernel
theorem dJ0_checkIndex_df160_0 : decode cJ0_checkIndex_df160 0 = .ok (.iload_n 0, 1) := by decide +kernel
theorem dJ0_checkIndex_df160_1 : decode cJ0_checkIndex_df160 1 = .ok (.iload_n 1, 1) := by decide +kernel
theorem dJ0_checkIndex_df160_2 : decode cJ0_checkIndex_df160 2 = .ok (.getstatic 1053, 3) := by decide +kernel
theorem dJ0_checkIndex_df160_5 : decode cJ0_checkIndex_df160 5 = .ok (.invokestatic 1059, 3) := by decide +kernel
theorem dJ0_checkIndex_df160_8 : decode cJ0_checkIndex_df160 8 = .ok (.pop, 1) := by decide +kernel
theorem dJ0_checkIndex_df160_9 : decode cJ0_checkIndex_df160 9 = .ok (.return_, 1) := by decide +kernel
theorem dJ1_charAt_3b067_0 : decode cJ1_charAt_3b067 0 = .ok (.iload_n 1, 1) := by decide +kernel
theorem dJ1_charAt_3b067_1 : decode cJ1_charAt_3b067 1 = .ok (.aload_n 0, 1) := by decide +kernel
theorem dJ1_charAt_3b067_2 : decode cJ1_charAt_3b067 2 = .ok (.arraylength, 1) := by decide +kernel
theorem dJ1_charAt_3b067_3 : decode cJ1_charAt_3b067 3 = .ok (.invokestatic 9, 3) := by decide +kernel
theorem dJ1_charAt_3b067_6 : decode cJ1_charAt_3b067 6 = .ok (.aload_n 0, 1) := by decide +kernel
theorem dJ1_charAt_3b067_7 : decode cJ1_charAt_3b067 7 = .ok (.iload_n 1, 1) := by decide +kernel
theorem dJ1_charAt_3b067_8 : decode cJ1_charAt_3b067 8 = .ok (.baload, 1) := by decide +kernel
theorem dJ1_charAt_3b067_9 : decode cJ1_charAt_3b067 9 = .ok (.sipush 255, 3) := by decide +kernel
theorem dJ1_charAt_3b067_12 : decode cJ1_charAt_3b067 12 = .ok (.iand, 1) := by decide +kernel
theorem dJ1_charAt_3b067_13 : decode cJ1_charAt_3b067 13 = .ok (.i2c, 1) := by decide +kernel
theorem dJ1_charAt_3b067_14 : decode cJ1_charAt_3b067 14 = .ok (.ireturn, 1) := by decide +kernel
theorem dJ2_getChar_3b067_0 : decode cJ2_getChar_3b067 0 = .ok (.getstatic 44, 3) := by decide +kernel
theorem dJ2_getChar_3b067_3 : decode cJ2_getChar_3b067 3 = .ok (.ifCond .ne 25, 3) := by decide +kernel
theorem dJ2_getChar_3b067_6 : decode cJ2_getChar_3b067 6 = .ok (.iload_n 1, 1) := by decide +kernel
theorem dJ2_getChar_3b067_7 : decode cJ2_getChar_3b067 7 = .ok (.ifCond .lt 11, 3) := by decide +kernel
theorem dJ2_getChar_3b067_10 : decode cJ2_getChar_3b067 10 = .ok (.iload_n 1, 1) := by decide +kernel
theorem dJ2_getChar_3b067_11 : decode cJ2_getChar_3b067 11 = .ok (.aload_n 0, 1) := by decide +kernel
theorem dJ2_getChar_3b067_12 : decode cJ2_getChar_3b067 12 = .ok (.invokestatic 48, 3) := by decide +kernel
theorem dJ2_getChar_3b067_15 : decode cJ2_getChar_3b067 15 = .ok (.if_icmp .lt 13, 3) := by decide +kernel
theorem dJ2_getChar_3b067_18 : decode cJ2_getChar_3b067 18 = .ok (.new 52, 3) := by decide +kernel
theorem dJ2_getChar_3b067_21 : decode cJ2_getChar_3b067 21 = .ok (.dup, 1) := by decide +kernel
theorem dJ2_getChar_3b067_22 : decode cJ2_getChar_3b067 22 = .ok (.ldc 54, 2) := by decide +kernel
theorem dJ2_getChar_3b067_24 : decode cJ2_getChar_3b067 24 = .ok (.invokespecial 56, 3) := by decide +kernel
theorem dJ2_getChar_3b067_27 : decode cJ2_getChar_3b067 27 = .ok (.athrow, 1) := by decide +kernel
theorem dJ2_getChar_3b067_28 : decode cJ2_getChar_3b067 28 = .ok (.iload_n 1, 1) := by decide +kernel
theorem dJ2_getChar_3b067_29 : decode cJ2_getChar_3b067 29 = .ok (.iconst 1, 1) := by decide +kernel
theorem dJ2_getChar_3b067_30 : decode cJ2_getChar_3b067 30 = .ok (.ishl, 1) := by decide +kernel
theorem dJ2_getChar_3b067_31 : decode cJ2_getChar_3b067 31 = .ok (.istore_n 1, 1) := by decide +kernel
theorem dJ2_getChar_3b067_32 : decode cJ2_getChar_3b067 32 = .ok (.aload_n 0, 1) := by decide +kernel
theorem dJ2_getChar_3b067_33 : decode cJ2_getChar_3b067 33 = .ok (.iload_n 1, 1) := by decide +kernel
theorem dJ2_getChar_3b067_34 : decode cJ2_getChar_3b067 34 = .ok (.iinc 1 1, 3) := by decide +kernel
theorem dJ2_getChar_3b067_37 : decode cJ2_getChar_3b067 37 = .ok (.baload, 1) := by decide +kernel
theorem dJ2_getChar_3b067_38 : decode cJ2_getChar_3b067 38 = .ok (.sipush 255, 3) := by decide +kernel
theorem dJ2_getChar_3b067_41 : decode cJ2_getChar_3b067 41 = .ok (.iand, 1) := by decide +kernel
theorem dJ2_getChar_3b067_42 : decode cJ2_getChar_3b067 42 = .ok (.getstatic 59, 3) := by decide +kernel
theorem dJ2_getChar_3b067_45 : decode cJ2_getChar_3b067 45 = .ok (.ishl, 1) := by decide +kernel
theorem dJ2_getChar_3b067_46 : decode cJ2_getChar_3b067 46 = .ok (.aload_n 0, 1) := by decide +kernel
theorem dJ2_getChar_3b067_47 : decode cJ2_getChar_3b067 47 = .ok (.iload_n 1, 1) := by decide +kernel
theorem dJ2_getChar_3b067_48 : decode cJ2_getChar_3b067 48 = .ok (.baload, 1) := by decide +kernel
theorem dJ2_getChar_3b067_49 : decode cJ2_getChar_3b067 49 = .ok (.sipush 255, 3) := by decide +kernel
theorem dJ2_getChar_3b067_52 : decode cJ2_getChar_3b067 52 = .ok (.iand, 1) := by decide +kernel
theorem dJ2_getChar_3b067_53 : decode cJ2_getChar_3b067 53 = .ok (.getstatic 63, 3) := by decide +kernel
theorem dJ2_getChar_3b067_56 : decode cJ2_getChar_3b067 56 = .ok (.ishl, 1) := by decide +kernel
theorem dJ2_getChar_3b067_57 : decode cJ2_getChar_3b067 57 = .ok (.ior, 1) := by decide +kernel
theorem dJ2_getChar_3b067_58 : decode cJ2_getChar_3b067 58 = .ok (.i2c, 1) := by decide +kernel
theorem dJ2_getChar_3b067_59 : decode cJ2_getChar_3b067 59 = .ok (.ireturn, 1) := by decide +kernel
theorem dJ2_length_9d52b_0 : decode cJ2_length_9d52b 0 = .ok (.aload_n 0, 1) := by decide +kernel
theorem dJ2_length_9d52b_1 : decode cJ2_length_9d52b 1 = .ok (.arraylength, 1) := by decide +kernel
theorem dJ2_length_9d52b_2 : decode cJ2_length_9d52b 2 = .ok (.iconst 1, 1) := by decide +kernel
theorem dJ2_length_9d52b_3 : decode cJ2_length_9d52b 3 = .ok (.ishr, 1) := by decide +kernel
theorem dJ2_length_9d52b_4 : decode cJ2_length_9d52b 4 = .ok (.ireturn, 1) := by decide +kernel
theorem dJ2_charAt_3b067_0 : decode cJ2_charAt_3b067 0 = .ok (.iload_n 1, 1) := by decide +kernel
theorem dJ2_charAt_3b067_1 : decode cJ2_charAt_3b067 1 = .ok (.aload_n 0, 1) := by decide +kernel
theorem dJ2_charAt_3b067_2 : decode cJ2_charAt_3b067 2 = .ok (.invokestatic 67, 3) := by decide +kernel
theorem dJ2_charAt_3b067_5 : decode cJ2_charAt_3b067 5 = .ok (.aload_n 0, 1) := by decide +kernel
theorem dJ2_charAt_3b067_6 : decode cJ2_charAt_3b067 6 = .ok (.iload_n 1, 1) := by decide +kernel
theorem dJ2_charAt_3b067_7 : decode cJ2_charAt_3b067 7 = .ok (.invokestatic 71, 3) := by decide +kernel
theorem dJ2_charAt_3b067_10 : decode cJ2_charAt_3b067 10 = .ok (.ireturn, 1) := by decide +kernel
theorem dJ2_checkIndex_2214a_0 : decode cJ2_checkIndex_2214a 0 = .ok (.iload_n 0, 1) := by decide +kernel
theorem dJ2_checkIndex_2214a_1 : decode cJ2_checkIndex_2214a 1 = .ok (.aload_n 1, 1) := by decide +kernel
theorem dJ2_checkIndex_2214a_2 : decode cJ2_checkIndex_2214a 2 = .ok (.invokestatic 48, 3) := by decide +kernel
theorem dJ2_checkIndex_2214a_5 : decode cJ2_checkIndex_2214a 5 = .ok (.invokestatic 414, 3) := by decide +kernel
theorem dJ2_checkIndex_2214a_8 : decode cJ2_checkIndex_2214a 8 = .ok (.return_, 1) := by decide +kernel
theorem dJ3_checkIndex_8e157_0 : decode cJ3_checkIndex_8e157 0 = .ok (.iload_n 0, 1) := by decide +kernel
theorem dJ3_checkIndex_8e157_1 : decode cJ3_checkIndex_8e157 1 = .ok (.ifCond .lt 8, 3) := by decide +kernel
theorem dJ3_checkIndex_8e157_4 : decode cJ3_checkIndex_8e157 4 = .ok (.iload_n 0, 1) := by decide +kernel
theorem dJ3_checkIndex_8e157_5 : decode cJ3_checkIndex_8e157 5 = .ok (.iload_n 1, 1) := by decide +kernel
theorem dJ3_checkIndex_8e157_6 : decode cJ3_checkIndex_8e157 6 = .ok (.if_icmp .lt 10, 3) := by decide +kernel
theorem dJ3_checkIndex_8e157_9 : decode cJ3_checkIndex_8e157 9 = .ok (.aload_n 2, 1) := by decide +kernel
theorem dJ3_checkIndex_8e157_10 : decode cJ3_checkIndex_8e157 10 = .ok (.iload_n 0, 1) := by decide +kernel
theorem dJ3_checkIndex_8e157_11 : decode cJ3_checkIndex_8e157 11 = .ok (.iload_n 1, 1) := by decide +kernel
theorem dJ3_checkIndex_8e157_12 : decode cJ3_checkIndex_8e157 12 = .ok (.invokestatic 95, 3) := by decide +kernel
theorem dJ3_checkIndex_8e157_15 : decode cJ3_checkIndex_8e157 15 = .ok (.athrow, 1) := by decide +kernel
theorem dJ3_checkIndex_8e157_16 : decode cJ3_checkIndex_8e157 16 = .ok (.iload_n 0, 1) := by decide +kernel
theorem dJ3_checkIndex_8e157_17 : decode cJ3_checkIndex_8e157 17 = .ok (.ireturn, 1) := by decide +kernel
