theorem dX12_meet_79 : decode cX12_meet 79 = .ok (.iload 4, 2) := by decide +kernel
theorem dX12_meet_81 : decode cX12_meet 81 = .ok (.iconst (-1), 1) := by decide +kernel
theorem dX12_meet_82 : decode cX12_meet 82 = .ok (.if_icmp .ne 66, 3) := by decide +kernel
theorem dX12_meet_85 : decode cX12_meet 85 = .ok (.aload_n 0, 1) := by decide +kernel
theorem dX12_meet_86 : decode cX12_meet 86 = .ok (.getfield 78, 3) := by decide +kernel
theorem dX12_meet_89 : decode cX12_meet 89 = .ok (.iload_n 1, 1) := by decide +kernel
theorem dX12_meet_90 : decode cX12_meet 90 = .ok (.isub, 1) := by decide +kernel
theorem dX12_meet_91 : decode cX12_meet 91 = .ok (.iload 6, 2) := by decide +kernel
theorem dX12_meet_93 : decode cX12_meet 93 = .ok (.iload_n 2, 1) := by decide +kernel
theorem dX12_meet_94 : decode cX12_meet 94 = .ok (.imul, 1) := by decide +kernel
theorem dX12_meet_95 : decode cX12_meet 95 = .ok (.isub, 1) := by decide +kernel
theorem dX12_meet_96 : decode cX12_meet 96 = .ok (.istore 7, 2) := by decide +kernel
theorem dX12_meet_98 : decode cX12_meet 98 = .ok (.iload 7, 2) := by decide +kernel
theorem dX12_meet_100 : decode cX12_meet 100 = .ok (.ifCond .eq 16, 3) := by decide +kernel
theorem dX12_meet_103 : decode cX12_meet 103 = .ok (.iload_n 3, 1) := by decide +kernel
theorem dX12_meet_104 : decode cX12_meet 104 = .ok (.iconst 1, 1) := by decide +kernel
theorem dX12_meet_105 : decode cX12_meet 105 = .ok (.if_icmp .ne 15, 3) := by decide +kernel
theorem dX12_meet_108 : decode cX12_meet 108 = .ok (.iload 7, 2) := by decide +kernel
theorem dX12_meet_110 : decode cX12_meet 110 = .ok (.iload 5, 2) := by decide +kernel
theorem dX12_meet_112 : decode cX12_meet 112 = .ok (.imul, 1) := by decide +kernel
theorem dX12_meet_113 : decode cX12_meet 113 = .ok (.ifCond .ge 7, 3) := by decide +kernel
theorem dX12_meet_116 : decode cX12_meet 116 = .ok (.iconst 1, 1) := by decide +kernel
theorem dX12_meet_117 : decode cX12_meet 117 = .ok (.goto 4, 3) := by decide +kernel
theorem dX12_meet_120 : decode cX12_meet 120 = .ok (.iconst 0, 1) := by decide +kernel
theorem dX12_meet_121 : decode cX12_meet 121 = .ok (.istore 8, 2) := by decide +kernel
theorem dX12_meet_123 : decode cX12_meet 123 = .ok (.iload 8, 2) := by decide +kernel
theorem dX12_meet_125 : decode cX12_meet 125 = .ok (.ifCond .eq 8, 3) := by decide +kernel
theorem dX12_meet_128 : decode cX12_meet 128 = .ok (.iload 6, 2) := by decide +kernel
theorem dX12_meet_130 : decode cX12_meet 130 = .ok (.goto 5, 3) := by decide +kernel
theorem dX12_meet_133 : decode cX12_meet 133 = .ok (.iload 4, 2) := by decide +kernel
theorem dX12_meet_135 : decode cX12_meet 135 = .ok (.istore 4, 2) := by decide +kernel
theorem dX12_meet_137 : decode cX12_meet 137 = .ok (.aload_n 0, 1) := by decide +kernel
theorem dX12_meet_138 : decode cX12_meet 138 = .ok (.invokevirtual 205, 3) := by decide +kernel
theorem dX12_meet_141 : decode cX12_meet 141 = .ok (.pop, 1) := by decide +kernel
theorem dX12_meet_142 : decode cX12_meet 142 = .ok (.iinc 6 1, 3) := by decide +kernel
theorem dX12_meet_145 : decode cX12_meet 145 = .ok (.goto (-73), 3) := by decide +kernel
theorem dX12_meet_148 : decode cX12_meet 148 = .ok (.aload_n 0, 1) := by decide +kernel
theorem dX12_meet_149 : decode cX12_meet 149 = .ok (.invokevirtual 221, 3) := by decide +kernel
theorem dX12_meet_152 : decode cX12_meet 152 = .ok (.iload 4, 2) := by decide +kernel
theorem dX12_meet_154 : decode cX12_meet 154 = .ok (.ireturn, 1) := by decide +kernel
theorem dX12_lay_0 : decode cX12_lay 0 = .ok (.lload_n 1, 1) := by decide +kernel
theorem dX12_lay_1 : decode cX12_lay 1 = .ok (.lstore 5, 2) := by decide +kernel
theorem dX12_lay_3 : decode cX12_lay 3 = .ok (.lload_n 3, 1) := by decide +kernel
theorem dX12_lay_4 : decode cX12_lay 4 = .ok (.lstore 7, 2) := by decide +kernel
theorem dX12_lay_6 : decode cX12_lay 6 = .ok (.lload 7, 2) := by decide +kernel
theorem dX12_lay_8 : decode cX12_lay 8 = .ok (.lconst 0, 1) := by decide +kernel
theorem dX12_lay_9 : decode cX12_lay 9 = .ok (.lcmp, 1) := by decide +kernel
theorem dX12_lay_10 : decode cX12_lay 10 = .ok (.ifCond .eq 21, 3) := by decide +kernel
theorem dX12_lay_13 : decode cX12_lay 13 = .ok (.lload 5, 2) := by decide +kernel
theorem dX12_lay_15 : decode cX12_lay 15 = .ok (.lload 7, 2) := by decide +kernel
theorem dX12_lay_17 : decode cX12_lay 17 = .ok (.lrem, 1) := by decide +kernel
theorem dX12_lay_18 : decode cX12_lay 18 = .ok (.lstore 9, 2) := by decide +kernel
theorem dX12_lay_20 : decode cX12_lay 20 = .ok (.lload 7, 2) := by decide +kernel
theorem dX12_lay_22 : decode cX12_lay 22 = .ok (.lstore 5, 2) := by decide +kernel
theorem dX12_lay_24 : decode cX12_lay 24 = .ok (.lload 9, 2) := by decide +kernel
theorem dX12_lay_26 : decode cX12_lay 26 = .ok (.lstore 7, 2) := by decide +kernel
theorem dX12_lay_28 : decode cX12_lay 28 = .ok (.goto (-22), 3) := by decide +kernel
theorem dX12_lay_31 : decode cX12_lay 31 = .ok (.aload_n 0, 1) := by decide +kernel
theorem dX12_lay_32 : decode cX12_lay 32 = .ok (.lload_n 1, 1) := by decide +kernel
theorem dX12_lay_33 : decode cX12_lay 33 = .ok (.lload 5, 2) := by decide +kernel
theorem dX12_lay_35 : decode cX12_lay 35 = .ok (.ldiv, 1) := by decide +kernel
theorem dX12_lay_36 : decode cX12_lay 36 = .ok (.putfield 249, 3) := by decide +kernel
theorem dX12_lay_39 : decode cX12_lay 39 = .ok (.aload_n 0, 1) := by decide +kernel
theorem dX12_lay_40 : decode cX12_lay 40 = .ok (.lload_n 3, 1) := by decide +kernel
theorem dX12_lay_41 : decode cX12_lay 41 = .ok (.lload 5, 2) := by decide +kernel
theorem dX12_lay_43 : decode cX12_lay 43 = .ok (.ldiv, 1) := by decide +kernel
theorem dX12_lay_44 : decode cX12_lay 44 = .ok (.putfield 61, 3) := by decide +kernel
theorem dX12_lay_47 : decode cX12_lay 47 = .ok (.return_, 1) := by decide +kernel
theorem dX12_odds_0 : decode cX12_odds 0 = .ok (.aload_n 0, 1) := by decide +kernel
theorem dX12_odds_1 : decode cX12_odds 1 = .ok (.iload_n 1, 1) := by decide +kernel
theorem dX12_odds_2 : decode cX12_odds 2 = .ok (.invokevirtual 199, 3) := by decide +kernel
theorem dX12_odds_5 : decode cX12_odds 5 = .ok (.ifCond .eq 13, 3) := by decide +kernel
theorem dX12_odds_8 : decode cX12_odds 8 = .ok (.iload_n 2, 1) := by decide +kernel
theorem dX12_odds_9 : decode cX12_odds 9 = .ok (.iconst 0, 1) := by decide +kernel
theorem dX12_odds_10 : decode cX12_odds 10 = .ok (.bipush 10, 2) := by decide +kernel
theorem dX12_odds_12 : decode cX12_odds 12 = .ok (.invokestatic 93, 3) := by decide +kernel
theorem dX12_odds_15 : decode cX12_odds 15 = .ok (.ifCond .ne 8, 3) := by decide +kernel
theorem dX12_odds_18 : decode cX12_odds 18 = .ok (.aload_n 0, 1) := by decide +kernel
theorem dX12_odds_19 : decode cX12_odds 19 = .ok (.invokevirtual 97, 3) := by decide +kernel
theorem dX12_odds_22 : decode cX12_odds 22 = .ok (.ireturn, 1) := by decide +kernel
theorem dX12_odds_23 : decode cX12_odds 23 = .ok (.lconst 0, 1) := by decide +kernel
theorem dX12_odds_24 : decode cX12_odds 24 = .ok (.lstore_n 3, 1) := by decide +kernel
theorem dX12_odds_25 : decode cX12_odds 25 = .ok (.lconst 1, 1) := by decide +kernel
theorem dX12_odds_26 : decode cX12_odds 26 = .ok (.lstore 5, 2) := by decide +kernel
theorem dX12_odds_28 : decode cX12_odds 28 = .ok (.iconst 0, 1) := by decide +kernel
theorem dX12_odds_29 : decode cX12_odds 29 = .ok (.istore 7, 2) := by decide +kernel
theorem dX12_odds_31 : decode cX12_odds 31 = .ok (.iload 7, 2) := by decide +kernel
theorem dX12_odds_33 : decode cX12_odds 33 = .ok (.aload_n 0, 1) := by decide +kernel
theorem dX12_odds_34 : decode cX12_odds 34 = .ok (.getfield 74, 3) := by decide +kernel
theorem dX12_odds_37 : decode cX12_odds 37 = .ok (.if_icmp .ge 17, 3) := by decide +kernel
theorem dX12_odds_40 : decode cX12_odds 40 = .ok (.lload 5, 2) := by decide +kernel
theorem dX12_odds_42 : decode cX12_odds 42 = .ok (.ldc2_w 252, 3) := by decide +kernel
theorem dX12_odds_45 : decode cX12_odds 45 = .ok (.lmul, 1) := by decide +kernel
theorem dX12_odds_46 : decode cX12_odds 46 = .ok (.lstore 5, 2) := by decide +kernel
theorem dX12_odds_48 : decode cX12_odds 48 = .ok (.iinc 7 1, 3) := by decide +kernel
theorem dX12_odds_51 : decode cX12_odds 51 = .ok (.goto (-20), 3) := by decide +kernel
theorem dX12_odds_54 : decode cX12_odds 54 = .ok (.iconst 0, 1) := by decide +kernel
theorem dX12_odds_55 : decode cX12_odds 55 = .ok (.istore 7, 2) := by decide +kernel
theorem dX12_odds_57 : decode cX12_odds 57 = .ok (.iload 7, 2) := by decide +kernel
theorem dX12_odds_59 : decode cX12_odds 59 = .ok (.iconst 1, 1) := by decide +kernel
theorem dX12_odds_60 : decode cX12_odds 60 = .ok (.aload_n 0, 1) := by decide +kernel
theorem dX12_odds_61 : decode cX12_odds 61 = .ok (.getfield 74, 3) := by decide +kernel
theorem dX12_odds_64 : decode cX12_odds 64 = .ok (.ishl, 1) := by decide +kernel
theorem dX12_odds_65 : decode cX12_odds 65 = .ok (.if_icmp .ge 74, 3) := by decide +kernel
theorem dX12_odds_68 : decode cX12_odds 68 = .ok (.lconst 1, 1) := by decide +kernel
theorem dX12_odds_69 : decode cX12_odds 69 = .ok (.lstore 8, 2) := by decide +kernel
theorem dX12_odds_71 : decode cX12_odds 71 = .ok (.iconst 0, 1) := by decide +kernel
theorem dX12_odds_72 : decode cX12_odds 72 = .ok (.istore 10, 2) := by decide +kernel
theorem dX12_odds_74 : decode cX12_odds 74 = .ok (.iload 10, 2) := by decide +kernel
theorem dX12_odds_76 : decode cX12_odds 76 = .ok (.aload_n 0, 1) := by decide +kernel
theorem dX12_odds_77 : decode cX12_odds 77 = .ok (.getfield 74, 3) := by decide +kernel
theorem dX12_odds_80 : decode cX12_odds 80 = .ok (.if_icmp .ge 34, 3) := by decide +kernel
theorem dX12_odds_83 : decode cX12_odds 83 = .ok (.lload 8, 2) := by decide +kernel
theorem dX12_odds_85 : decode cX12_odds 85 = .ok (.iload 7, 2) := by decide +kernel
theorem dX12_odds_87 : decode cX12_odds 87 = .ok (.iload 10, 2) := by decide +kernel
theorem dX12_odds_89 : decode cX12_odds 89 = .ok (.invokestatic 243, 3) := by decide +kernel
theorem dX12_odds_92 : decode cX12_odds 92 = .ok (.ifCond .eq 8, 3) := by decide +kernel
theorem dX12_odds_95 : decode cX12_odds 95 = .ok (.iload_n 2, 1) := by decide +kernel
theorem dX12_odds_96 : decode cX12_odds 96 = .ok (.i2l, 1) := by decide +kernel
theorem dX12_odds_97 : decode cX12_odds 97 = .ok (.goto 8, 3) := by decide +kernel
theorem dX12_odds_100 : decode cX12_odds 100 = .ok (.bipush 10, 2) := by decide +kernel
theorem dX12_odds_102 : decode cX12_odds 102 = .ok (.iload_n 2, 1) := by decide +kernel
theorem dX12_odds_103 : decode cX12_odds 103 = .ok (.isub, 1) := by decide +kernel
theorem dX12_odds_104 : decode cX12_odds 104 = .ok (.i2l, 1) := by decide +kernel
theorem dX12_odds_105 : decode cX12_odds 105 = .ok (.lmul, 1) := by decide +kernel
theorem dX12_odds_106 : decode cX12_odds 106 = .ok (.lstore 8, 2) := by decide +kernel
theorem dX12_odds_108 : decode cX12_odds 108 = .ok (.iinc 10 1, 3) := by decide +kernel
theorem dX12_odds_111 : decode cX12_odds 111 = .ok (.goto (-37), 3) := by decide +kernel
theorem dX12_odds_114 : decode cX12_odds 114 = .ok (.lload_n 3, 1) := by decide +kernel
theorem dX12_odds_115 : decode cX12_odds 115 = .ok (.aload_n 0, 1) := by decide +kernel
theorem dX12_odds_116 : decode cX12_odds 116 = .ok (.iload 7, 2) := by decide +kernel
theorem dX12_odds_118 : decode cX12_odds 118 = .ok (.invokevirtual 231, 3) := by decide +kernel
theorem dX12_odds_121 : decode cX12_odds 121 = .ok (.iload_n 1, 1) := by decide +kernel
theorem dX12_odds_122 : decode cX12_odds 122 = .ok (.if_icmp .ne 8, 3) := by decide +kernel
theorem dX12_odds_125 : decode cX12_odds 125 = .ok (.lload 8, 2) := by decide +kernel
theorem dX12_odds_127 : decode cX12_odds 127 = .ok (.goto 4, 3) := by decide +kernel
theorem dX12_odds_130 : decode cX12_odds 130 = .ok (.lconst 0, 1) := by decide +kernel
theorem dX12_odds_131 : decode cX12_odds 131 = .ok (.ladd, 1) := by decide +kernel
theorem dX12_odds_132 : decode cX12_odds 132 = .ok (.lstore_n 3, 1) := by decide +kernel
theorem dX12_odds_133 : decode cX12_odds 133 = .ok (.iinc 7 1, 3) := by decide +kernel
theorem dX12_odds_136 : decode cX12_odds 136 = .ok (.goto (-79), 3) := by decide +kernel
theorem dX12_odds_139 : decode cX12_odds 139 = .ok (.aload_n 0, 1) := by decide +kernel
theorem dX12_odds_140 : decode cX12_odds 140 = .ok (.lload_n 3, 1) := by decide +kernel
theorem dX12_odds_141 : decode cX12_odds 141 = .ok (.lload 5, 2) := by decide +kernel
theorem dX12_odds_143 : decode cX12_odds 143 = .ok (.invokevirtual 254, 3) := by decide +kernel
theorem dX12_odds_146 : decode cX12_odds 146 = .ok (.iconst 1, 1) := by decide +kernel
theorem dX12_odds_147 : decode cX12_odds 147 = .ok (.ireturn, 1) := by decide +kernel
theorem dX12_voyages_0 : decode cX12_voyages 0 = .ok (.iload_n 1, 1) := by decide +kernel
theorem dX12_voyages_1 : decode cX12_voyages 1 = .ok (.iconst 0, 1) := by decide +kernel
theorem dX12_voyages_2 : decode cX12_voyages 2 = .ok (.ldc_w 258, 3) := by decide +kernel
theorem dX12_voyages_5 : decode cX12_voyages 5 = .ok (.invokestatic 93, 3) := by decide +kernel
theorem dX12_voyages_8 : decode cX12_voyages 8 = .ok (.ifCond .eq 13, 3) := by decide +kernel
theorem dX12_voyages_11 : decode cX12_voyages 11 = .ok (.iload_n 2, 1) := by decide +kernel
theorem dX12_voyages_12 : decode cX12_voyages 12 = .ok (.iconst 0, 1) := by decide +kernel
theorem dX12_voyages_13 : decode cX12_voyages 13 = .ok (.bipush 60, 2) := by decide +kernel
theorem dX12_voyages_15 : decode cX12_voyages 15 = .ok (.invokestatic 93, 3) := by decide +kernel
theorem dX12_voyages_18 : decode cX12_voyages 18 = .ok (.ifCond .ne 8, 3) := by decide +kernel
theorem dX12_voyages_21 : decode cX12_voyages 21 = .ok (.aload_n 0, 1) := by decide +kernel
theorem dX12_voyages_22 : decode cX12_voyages 22 = .ok (.invokevirtual 211, 3) := by decide +kernel
theorem dX12_voyages_25 : decode cX12_voyages 25 = .ok (.ireturn, 1) := by decide +kernel
theorem dX12_voyages_26 : decode cX12_voyages 26 = .ok (.aload_n 0, 1) := by decide +kernel
theorem dX12_voyages_27 : decode cX12_voyages 27 = .ok (.invokevirtual 214, 3) := by decide +kernel
theorem dX12_voyages_30 : decode cX12_voyages 30 = .ok (.iload_n 1, 1) := by decide +kernel
theorem dX12_voyages_31 : decode cX12_voyages 31 = .ok (.i2l, 1) := by decide +kernel
theorem dX12_voyages_32 : decode cX12_voyages 32 = .ok (.lstore_n 3, 1) := by decide +kernel
theorem dX12_voyages_33 : decode cX12_voyages 33 = .ok (.iconst 0, 1) := by decide +kernel
theorem dX12_voyages_34 : decode cX12_voyages 34 = .ok (.istore 5, 2) := by decide +kernel
theorem dX12_voyages_36 : decode cX12_voyages 36 = .ok (.iload 5, 2) := by decide +kernel
theorem dX12_voyages_38 : decode cX12_voyages 38 = .ok (.iload_n 2, 1) := by decide +kernel
theorem dX12_voyages_39 : decode cX12_voyages 39 = .ok (.if_icmp .ge 77, 3) := by decide +kernel
theorem dX12_voyages_42 : decode cX12_voyages 42 = .ok (.lload_n 3, 1) := by decide +kernel
theorem dX12_voyages_43 : decode cX12_voyages 43 = .ok (.ldc2_w 259, 3) := by decide +kernel
theorem dX12_voyages_46 : decode cX12_voyages 46 = .ok (.lmul, 1) := by decide +kernel
theorem dX12_voyages_47 : decode cX12_voyages 47 = .ok (.ldc2_w 261, 3) := by decide +kernel
theorem dX12_voyages_50 : decode cX12_voyages 50 = .ok (.ladd, 1) := by decide +kernel
theorem dX12_voyages_51 : decode cX12_voyages 51 = .ok (.ldc2_w 263, 3) := by decide +kernel
theorem dX12_voyages_54 : decode cX12_voyages 54 = .ok (.lrem, 1) := by decide +kernel
theorem dX12_voyages_55 : decode cX12_voyages 55 = .ok (.lstore_n 3, 1) := by decide +kernel
theorem dX12_voyages_56 : decode cX12_voyages 56 = .ok (.lload_n 3, 1) := by decide +kernel
theorem dX12_voyages_57 : decode cX12_voyages 57 = .ok (.ldc2_w 265, 3) := by decide +kernel
theorem dX12_voyages_60 : decode cX12_voyages 60 = .ok (.ldiv, 1) := by decide +kernel
theorem dX12_voyages_61 : decode cX12_voyages 61 = .ok (.ldc2_w 267, 3) := by decide +kernel
theorem dX12_voyages_64 : decode cX12_voyages 64 = .ok (.lrem, 1) := by decide +kernel
theorem dX12_voyages_65 : decode cX12_voyages 65 = .ok (.l2i, 1) := by decide +kernel
theorem dX12_voyages_66 : decode cX12_voyages 66 = .ok (.istore 6, 2) := by decide +kernel
theorem dX12_voyages_68 : decode cX12_voyages 68 = .ok (.iconst 0, 1) := by decide +kernel
theorem dX12_voyages_69 : decode cX12_voyages 69 = .ok (.istore 7, 2) := by decide +kernel
theorem dX12_voyages_71 : decode cX12_voyages 71 = .ok (.iload 7, 2) := by decide +kernel
theorem dX12_voyages_73 : decode cX12_voyages 73 = .ok (.aload_n 0, 1) := by decide +kernel
theorem dX12_voyages_74 : decode cX12_voyages 74 = .ok (.getfield 74, 3) := by decide +kernel
theorem dX12_voyages_77 : decode cX12_voyages 77 = .ok (.if_icmp .ge 28, 3) := by decide +kernel
theorem dX12_voyages_80 : decode cX12_voyages 80 = .ok (.aload_n 0, 1) := by decide +kernel
theorem dX12_voyages_81 : decode cX12_voyages 81 = .ok (.getfield 22, 3) := by decide +kernel
theorem dX12_voyages_84 : decode cX12_voyages 84 = .ok (.iload 7, 2) := by decide +kernel
theorem dX12_voyages_86 : decode cX12_voyages 86 = .ok (.iload 7, 2) := by decide +kernel
theorem dX12_voyages_88 : decode cX12_voyages 88 = .ok (.iload 6, 2) := by decide +kernel
theorem dX12_voyages_90 : decode cX12_voyages 90 = .ok (.if_icmp .ne 7, 3) := by decide +kernel
theorem dX12_voyages_93 : decode cX12_voyages 93 = .ok (.iconst 1, 1) := by decide +kernel
theorem dX12_voyages_94 : decode cX12_voyages 94 = .ok (.goto 4, 3) := by decide +kernel
theorem dX12_voyages_97 : decode cX12_voyages 97 = .ok (.iconst 0, 1) := by decide +kernel
theorem dX12_voyages_98 : decode cX12_voyages 98 = .ok (.iastore, 1) := by decide +kernel
theorem dX12_voyages_99 : decode cX12_voyages 99 = .ok (.iinc 7 1, 3) := by decide +kernel
theorem dX12_voyages_102 : decode cX12_voyages 102 = .ok (.goto (-31), 3) := by decide +kernel
theorem dX12_voyages_105 : decode cX12_voyages 105 = .ok (.aload_n 0, 1) := by decide +kernel
theorem dX12_voyages_106 : decode cX12_voyages 106 = .ok (.invokevirtual 205, 3) := by decide +kernel
theorem dX12_voyages_109 : decode cX12_voyages 109 = .ok (.pop, 1) := by decide +kernel
theorem dX12_voyages_110 : decode cX12_voyages 110 = .ok (.iinc 5 1, 3) := by decide +kernel
theorem dX12_voyages_113 : decode cX12_voyages 113 = .ok (.goto (-77), 3) := by decide +kernel
theorem dX12_voyages_116 : decode cX12_voyages 116 = .ok (.aload_n 0, 1) := by decide +kernel
theorem dX12_voyages_117 : decode cX12_voyages 117 = .ok (.getfield 78, 3) := by decide +kernel
theorem dX12_voyages_120 : decode cX12_voyages 120 = .ok (.istore 5, 2) := by decide +kernel
theorem dX12_voyages_122 : decode cX12_voyages 122 = .ok (.aload_n 0, 1) := by decide +kernel
theorem dX12_voyages_123 : decode cX12_voyages 123 = .ok (.invokevirtual 221, 3) := by decide +kernel
theorem dX12_voyages_126 : decode cX12_voyages 126 = .ok (.iload 5, 2) := by decide +kernel
theorem dX12_voyages_128 : decode cX12_voyages 128 = .ok (.ireturn, 1) := by decide +kernel
theorem dX12_part_0 : decode cX12_part 0 = .ok (.iload_n 1, 1) := by decide +kernel
theorem dX12_part_1 : decode cX12_part 1 = .ok (.ifCond .ne 10, 3) := by decide +kernel
theorem dX12_part_4 : decode cX12_part 4 = .ok (.aload_n 0, 1) := by decide +kernel
theorem dX12_part_5 : decode cX12_part 5 = .ok (.getfield 249, 3) := by decide +kernel
theorem dX12_part_8 : decode cX12_part 8 = .ok (.goto 20, 3) := by decide +kernel
theorem dX12_part_11 : decode cX12_part 11 = .ok (.iload_n 1, 1) := by decide +kernel
theorem dX12_part_12 : decode cX12_part 12 = .ok (.iconst 1, 1) := by decide +kernel
theorem dX12_part_13 : decode cX12_part 13 = .ok (.if_icmp .ne 10, 3) := by decide +kernel
theorem dX12_part_16 : decode cX12_part 16 = .ok (.aload_n 0, 1) := by decide +kernel
theorem dX12_part_17 : decode cX12_part 17 = .ok (.getfield 61, 3) := by decide +kernel
theorem dX12_part_20 : decode cX12_part 20 = .ok (.goto 8, 3) := by decide +kernel
theorem dX12_part_23 : decode cX12_part 23 = .ok (.aload_n 0, 1) := by decide +kernel
theorem dX12_part_24 : decode cX12_part 24 = .ok (.invokevirtual 97, 3) := by decide +kernel
theorem dX12_part_27 : decode cX12_part 27 = .ok (.i2l, 1) := by decide +kernel
theorem dX12_part_28 : decode cX12_part 28 = .ok (.lreturn, 1) := by decide +kernel
theorem dX12_image_0 : decode cX12_image 0 = .ok (.iload_n 1, 1) := by decide +kernel
theorem dX12_image_1 : decode cX12_image 1 = .ok (.iconst 0, 1) := by decide +kernel
theorem dX12_image_2 : decode cX12_image 2 = .ok (.iconst 1, 1) := by decide +kernel
theorem dX12_image_3 : decode cX12_image 3 = .ok (.invokestatic 93, 3) := by decide +kernel
theorem dX12_image_6 : decode cX12_image 6 = .ok (.ifCond .ne 8, 3) := by decide +kernel
theorem dX12_image_9 : decode cX12_image 9 = .ok (.aload_n 0, 1) := by decide +kernel
theorem dX12_image_10 : decode cX12_image 10 = .ok (.invokevirtual 97, 3) := by decide +kernel
theorem dX12_image_13 : decode cX12_image 13 = .ok (.ireturn, 1) := by decide +kernel
theorem dX12_image_14 : decode cX12_image 14 = .ok (.sipush 160, 3) := by decide +kernel
theorem dX12_image_17 : decode cX12_image 17 = .ok (.iload_n 1, 1) := by decide +kernel
theorem dX12_image_18 : decode cX12_image 18 = .ok (.imul, 1) := by decide +kernel
theorem dX12_image_19 : decode cX12_image 19 = .ok (.istore_n 2, 1) := by decide +kernel
theorem dX12_image_20 : decode cX12_image 20 = .ok (.aload_n 0, 1) := by decide +kernel
theorem dX12_image_21 : decode cX12_image 21 = .ok (.getfield 68, 3) := by decide +kernel
theorem dX12_image_24 : decode cX12_image 24 = .ok (.iload_n 1, 1) := by decide +kernel
theorem dX12_image_25 : decode cX12_image 25 = .ok (.iconst 1, 1) := by decide +kernel
theorem dX12_image_26 : decode cX12_image 26 = .ok (.iastore, 1) := by decide +kernel
theorem dX12_image_27 : decode cX12_image 27 = .ok (.aload_n 0, 1) := by decide +kernel
theorem dX12_image_28 : decode cX12_image 28 = .ok (.getfield 65, 3) := by decide +kernel
theorem dX12_image_31 : decode cX12_image 31 = .ok (.iload_n 2, 1) := by decide +kernel
theorem dX12_image_32 : decode cX12_image 32 = .ok (.aload_n 0, 1) := by decide +kernel
theorem dX12_image_33 : decode cX12_image 33 = .ok (.getfield 74, 3) := by decide +kernel
theorem dX12_image_36 : decode cX12_image 36 = .ok (.iastore, 1) := by decide +kernel
theorem dX12_image_37 : decode cX12_image 37 = .ok (.aload_n 0, 1) := by decide +kernel
theorem dX12_image_38 : decode cX12_image 38 = .ok (.getfield 65, 3) := by decide +kernel
theorem dX12_image_41 : decode cX12_image 41 = .ok (.iload_n 2, 1) := by decide +kernel
theorem dX12_image_42 : decode cX12_image 42 = .ok (.iconst 1, 1) := by decide +kernel
theorem dX12_image_43 : decode cX12_image 43 = .ok (.iadd, 1) := by decide +kernel
theorem dX12_image_44 : decode cX12_image 44 = .ok (.aload_n 0, 1) := by decide +kernel
theorem dX12_image_45 : decode cX12_image 45 = .ok (.getfield 84, 3) := by decide +kernel
theorem dX12_image_48 : decode cX12_image 48 = .ok (.iastore, 1) := by decide +kernel
theorem dX12_image_49 : decode cX12_image 49 = .ok (.aload_n 0, 1) := by decide +kernel
theorem dX12_image_50 : decode cX12_image 50 = .ok (.getfield 65, 3) := by decide +kernel
theorem dX12_image_53 : decode cX12_image 53 = .ok (.iload_n 2, 1) := by decide +kernel
theorem dX12_image_54 : decode cX12_image 54 = .ok (.iconst 2, 1) := by decide +kernel
theorem dX12_image_55 : decode cX12_image 55 = .ok (.iadd, 1) := by decide +kernel
theorem dX12_image_56 : decode cX12_image 56 = .ok (.aload_n 0, 1) := by decide +kernel
theorem dX12_image_57 : decode cX12_image 57 = .ok (.getfield 87, 3) := by decide +kernel
theorem dX12_image_60 : decode cX12_image 60 = .ok (.iastore, 1) := by decide +kernel
theorem dX12_image_61 : decode cX12_image 61 = .ok (.aload_n 0, 1) := by decide +kernel
theorem dX12_image_62 : decode cX12_image 62 = .ok (.getfield 65, 3) := by decide +kernel
theorem dX12_image_65 : decode cX12_image 65 = .ok (.iload_n 2, 1) := by decide +kernel
theorem dX12_image_66 : decode cX12_image 66 = .ok (.iconst 3, 1) := by decide +kernel
theorem dX12_image_67 : decode cX12_image 67 = .ok (.iadd, 1) := by decide +kernel
theorem dX12_image_68 : decode cX12_image 68 = .ok (.aload_n 0, 1) := by decide +kernel
theorem dX12_image_69 : decode cX12_image 69 = .ok (.getfield 90, 3) := by decide +kernel
theorem dX12_image_72 : decode cX12_image 72 = .ok (.iastore, 1) := by decide +kernel
theorem dX12_image_73 : decode cX12_image 73 = .ok (.aload_n 0, 1) := by decide +kernel
theorem dX12_image_74 : decode cX12_image 74 = .ok (.aload_n 0, 1) := by decide +kernel
theorem dX12_image_75 : decode cX12_image 75 = .ok (.getfield 65, 3) := by decide +kernel
theorem dX12_image_78 : decode cX12_image 78 = .ok (.iload_n 2, 1) := by decide +kernel
theorem dX12_image_79 : decode cX12_image 79 = .ok (.iconst 4, 1) := by decide +kernel
theorem dX12_image_80 : decode cX12_image 80 = .ok (.iadd, 1) := by decide +kernel
theorem dX12_image_81 : decode cX12_image 81 = .ok (.invokevirtual 192, 3) := by decide +kernel
theorem dX12_image_84 : decode cX12_image 84 = .ok (.iconst 0, 1) := by decide +kernel
theorem dX12_image_85 : decode cX12_image 85 = .ok (.istore_n 3, 1) := by decide +kernel
theorem dX12_image_86 : decode cX12_image 86 = .ok (.iload_n 3, 1) := by decide +kernel
theorem dX12_image_87 : decode cX12_image 87 = .ok (.bipush 6, 2) := by decide +kernel
theorem dX12_image_89 : decode cX12_image 89 = .ok (.if_icmp .ge 94, 3) := by decide +kernel
theorem dX12_image_92 : decode cX12_image 92 = .ok (.aload_n 0, 1) := by decide +kernel
theorem dX12_image_93 : decode cX12_image 93 = .ok (.getfield 65, 3) := by decide +kernel
theorem dX12_image_96 : decode cX12_image 96 = .ok (.iload_n 2, 1) := by decide +kernel
theorem dX12_image_97 : decode cX12_image 97 = .ok (.bipush 18, 2) := by decide +kernel
theorem dX12_image_99 : decode cX12_image 99 = .ok (.iadd, 1) := by decide +kernel
theorem dX12_image_100 : decode cX12_image 100 = .ok (.iload_n 3, 1) := by decide +kernel
theorem dX12_image_101 : decode cX12_image 101 = .ok (.iadd, 1) := by decide +kernel
theorem dX12_image_102 : decode cX12_image 102 = .ok (.aload_n 0, 1) := by decide +kernel
theorem dX12_image_103 : decode cX12_image 103 = .ok (.getfield 13, 3) := by decide +kernel
theorem dX12_image_106 : decode cX12_image 106 = .ok (.iload_n 3, 1) := by decide +kernel
theorem dX12_image_107 : decode cX12_image 107 = .ok (.iaload, 1) := by decide +kernel
theorem dX12_image_108 : decode cX12_image 108 = .ok (.iastore, 1) := by decide +kernel
theorem dX12_image_109 : decode cX12_image 109 = .ok (.aload_n 0, 1) := by decide +kernel
theorem dX12_image_110 : decode cX12_image 110 = .ok (.getfield 65, 3) := by decide +kernel
theorem dX12_image_113 : decode cX12_image 113 = .ok (.iload_n 2, 1) := by decide +kernel
theorem dX12_image_114 : decode cX12_image 114 = .ok (.bipush 24, 2) := by decide +kernel
theorem dX12_image_116 : decode cX12_image 116 = .ok (.iadd, 1) := by decide +kernel
theorem dX12_image_117 : decode cX12_image 117 = .ok (.iload_n 3, 1) := by decide +kernel
theorem dX12_image_118 : decode cX12_image 118 = .ok (.iadd, 1) := by decide +kernel
theorem dX12_image_119 : decode cX12_image 119 = .ok (.aload_n 0, 1) := by decide +kernel
theorem dX12_image_120 : decode cX12_image 120 = .ok (.getfield 19, 3) := by decide +kernel
theorem dX12_image_123 : decode cX12_image 123 = .ok (.iload_n 3, 1) := by decide +kernel
theorem dX12_image_124 : decode cX12_image 124 = .ok (.iaload, 1) := by decide +kernel
theorem dX12_image_125 : decode cX12_image 125 = .ok (.iastore, 1) := by decide +kernel
theorem dX12_image_126 : decode cX12_image 126 = .ok (.aload_n 0, 1) := by decide +kernel
theorem dX12_image_127 : decode cX12_image 127 = .ok (.getfield 65, 3) := by decide +kernel
theorem dX12_image_130 : decode cX12_image 130 = .ok (.iload_n 2, 1) := by decide +kernel
theorem dX12_image_131 : decode cX12_image 131 = .ok (.bipush 30, 2) := by decide +kernel
theorem dX12_image_133 : decode cX12_image 133 = .ok (.iadd, 1) := by decide +kernel
theorem dX12_image_134 : decode cX12_image 134 = .ok (.iload_n 3, 1) := by decide +kernel
theorem dX12_image_135 : decode cX12_image 135 = .ok (.iadd, 1) := by decide +kernel
theorem dX12_image_136 : decode cX12_image 136 = .ok (.aload_n 0, 1) := by decide +kernel
theorem dX12_image_137 : decode cX12_image 137 = .ok (.getfield 25, 3) := by decide +kernel
theorem dX12_image_140 : decode cX12_image 140 = .ok (.iload_n 3, 1) := by decide +kernel
theorem dX12_image_141 : decode cX12_image 141 = .ok (.iaload, 1) := by decide +kernel
theorem dX12_image_142 : decode cX12_image 142 = .ok (.iastore, 1) := by decide +kernel
theorem dX12_image_143 : decode cX12_image 143 = .ok (.aload_n 0, 1) := by decide +kernel
theorem dX12_image_144 : decode cX12_image 144 = .ok (.getfield 65, 3) := by decide +kernel
theorem dX12_image_147 : decode cX12_image 147 = .ok (.iload_n 2, 1) := by decide +kernel
theorem dX12_image_148 : decode cX12_image 148 = .ok (.bipush 36, 2) := by decide +kernel
theorem dX12_image_150 : decode cX12_image 150 = .ok (.iadd, 1) := by decide +kernel
theorem dX12_image_151 : decode cX12_image 151 = .ok (.iload_n 3, 1) := by decide +kernel
theorem dX12_image_152 : decode cX12_image 152 = .ok (.iadd, 1) := by decide +kernel
theorem dX12_image_153 : decode cX12_image 153 = .ok (.aload_n 0, 1) := by decide +kernel
theorem dX12_image_154 : decode cX12_image 154 = .ok (.getfield 28, 3) := by decide +kernel
theorem dX12_image_157 : decode cX12_image 157 = .ok (.iload_n 3, 1) := by decide +kernel
theorem dX12_image_158 : decode cX12_image 158 = .ok (.iaload, 1) := by decide +kernel
theorem dX12_image_159 : decode cX12_image 159 = .ok (.iastore, 1) := by decide +kernel
theorem dX12_image_160 : decode cX12_image 160 = .ok (.aload_n 0, 1) := by decide +kernel
theorem dX12_image_161 : decode cX12_image 161 = .ok (.getfield 65, 3) := by decide +kernel
theorem dX12_image_164 : decode cX12_image 164 = .ok (.iload_n 2, 1) := by decide +kernel
theorem dX12_image_165 : decode cX12_image 165 = .ok (.bipush 42, 2) := by decide +kernel
theorem dX12_image_167 : decode cX12_image 167 = .ok (.iadd, 1) := by decide +kernel
theorem dX12_image_168 : decode cX12_image 168 = .ok (.iload_n 3, 1) := by decide +kernel
theorem dX12_image_169 : decode cX12_image 169 = .ok (.iadd, 1) := by decide +kernel
theorem dX12_image_170 : decode cX12_image 170 = .ok (.aload_n 0, 1) := by decide +kernel
theorem dX12_image_171 : decode cX12_image 171 = .ok (.getfield 31, 3) := by decide +kernel
theorem dX12_image_174 : decode cX12_image 174 = .ok (.iload_n 3, 1) := by decide +kernel
theorem dX12_image_175 : decode cX12_image 175 = .ok (.iaload, 1) := by decide +kernel
theorem dX12_image_176 : decode cX12_image 176 = .ok (.iastore, 1) := by decide +kernel
theorem dX12_image_177 : decode cX12_image 177 = .ok (.iinc 3 1, 3) := by decide +kernel
theorem dX12_image_180 : decode cX12_image 180 = .ok (.goto (-94), 3) := by decide +kernel
theorem dX12_image_183 : decode cX12_image 183 = .ok (.iconst 0, 1) := by decide +kernel
theorem dX12_image_184 : decode cX12_image 184 = .ok (.istore_n 3, 1) := by decide +kernel
theorem dX12_image_185 : decode cX12_image 185 = .ok (.iload_n 3, 1) := by decide +kernel
theorem dX12_image_186 : decode cX12_image 186 = .ok (.bipush 112, 2) := by decide +kernel
theorem dX12_image_188 : decode cX12_image 188 = .ok (.if_icmp .ge 26, 3) := by decide +kernel
theorem dX12_image_191 : decode cX12_image 191 = .ok (.aload_n 0, 1) := by decide +kernel
theorem dX12_image_192 : decode cX12_image 192 = .ok (.getfield 65, 3) := by decide +kernel
theorem dX12_image_195 : decode cX12_image 195 = .ok (.iload_n 2, 1) := by decide +kernel
theorem dX12_image_196 : decode cX12_image 196 = .ok (.bipush 48, 2) := by decide +kernel
theorem dX12_image_198 : decode cX12_image 198 = .ok (.iadd, 1) := by decide +kernel
theorem dX12_image_199 : decode cX12_image 199 = .ok (.iload_n 3, 1) := by decide +kernel
theorem dX12_image_200 : decode cX12_image 200 = .ok (.iadd, 1) := by decide +kernel
theorem dX12_image_201 : decode cX12_image 201 = .ok (.aload_n 0, 1) := by decide +kernel
theorem dX12_image_202 : decode cX12_image 202 = .ok (.getfield 43, 3) := by decide +kernel
theorem dX12_image_205 : decode cX12_image 205 = .ok (.iload_n 3, 1) := by decide +kernel
theorem dX12_image_206 : decode cX12_image 206 = .ok (.iaload, 1) := by decide +kernel
theorem dX12_image_207 : decode cX12_image 207 = .ok (.iastore, 1) := by decide +kernel
theorem dX12_image_208 : decode cX12_image 208 = .ok (.iinc 3 1, 3) := by decide +kernel
theorem dX12_image_211 : decode cX12_image 211 = .ok (.goto (-26), 3) := by decide +kernel
theorem dX12_image_214 : decode cX12_image 214 = .ok (.iconst 1, 1) := by decide +kernel
theorem dX12_image_215 : decode cX12_image 215 = .ok (.ireturn, 1) := by decide +kernel
theorem dX12_from_0 : decode cX12_from 0 = .ok (.iload_n 1, 1) := by decide +kernel
theorem dX12_from_1 : decode cX12_from 1 = .ok (.iconst 0, 1) := by decide +kernel
theorem dX12_from_2 : decode cX12_from 2 = .ok (.iconst 1, 1) := by decide +kernel
theorem dX12_from_3 : decode cX12_from 3 = .ok (.invokestatic 93, 3) := by decide +kernel
theorem dX12_from_6 : decode cX12_from 6 = .ok (.ifCond .ne 8, 3) := by decide +kernel
theorem dX12_from_9 : decode cX12_from 9 = .ok (.aload_n 0, 1) := by decide +kernel
theorem dX12_from_10 : decode cX12_from 10 = .ok (.invokevirtual 97, 3) := by decide +kernel
theorem dX12_from_13 : decode cX12_from 13 = .ok (.ireturn, 1) := by decide +kernel
theorem dX12_from_14 : decode cX12_from 14 = .ok (.aload_n 0, 1) := by decide +kernel
theorem dX12_from_15 : decode cX12_from 15 = .ok (.getfield 68, 3) := by decide +kernel
theorem dX12_from_18 : decode cX12_from 18 = .ok (.iload_n 1, 1) := by decide +kernel
theorem dX12_from_19 : decode cX12_from 19 = .ok (.iaload, 1) := by decide +kernel
theorem dX12_from_20 : decode cX12_from 20 = .ok (.ifCond .ne 8, 3) := by decide +kernel
theorem dX12_from_23 : decode cX12_from 23 = .ok (.aload_n 0, 1) := by decide +kernel
theorem dX12_from_24 : decode cX12_from 24 = .ok (.invokevirtual 105, 3) := by decide +kernel
theorem dX12_from_27 : decode cX12_from 27 = .ok (.ireturn, 1) := by decide +kernel
theorem dX12_from_28 : decode cX12_from 28 = .ok (.sipush 160, 3) := by decide +kernel
theorem dX12_from_31 : decode cX12_from 31 = .ok (.iload_n 1, 1) := by decide +kernel
theorem dX12_from_32 : decode cX12_from 32 = .ok (.imul, 1) := by decide +kernel
theorem dX12_from_33 : decode cX12_from 33 = .ok (.istore_n 2, 1) := by decide +kernel
theorem dX12_from_34 : decode cX12_from 34 = .ok (.aload_n 0, 1) := by decide +kernel
theorem dX12_from_35 : decode cX12_from 35 = .ok (.aload_n 0, 1) := by decide +kernel
theorem dX12_from_36 : decode cX12_from 36 = .ok (.getfield 65, 3) := by decide +kernel
theorem dX12_from_39 : decode cX12_from 39 = .ok (.iload_n 2, 1) := by decide +kernel
theorem dX12_from_40 : decode cX12_from 40 = .ok (.iaload, 1) := by decide +kernel
theorem dX12_from_41 : decode cX12_from 41 = .ok (.putfield 74, 3) := by decide +kernel
theorem dX12_from_44 : decode cX12_from 44 = .ok (.aload_n 0, 1) := by decide +kernel
theorem dX12_from_45 : decode cX12_from 45 = .ok (.aload_n 0, 1) := by decide +kernel
theorem dX12_from_46 : decode cX12_from 46 = .ok (.getfield 65, 3) := by decide +kernel
theorem dX12_from_49 : decode cX12_from 49 = .ok (.iload_n 2, 1) := by decide +kernel
theorem dX12_from_50 : decode cX12_from 50 = .ok (.iconst 1, 1) := by decide +kernel
theorem dX12_from_51 : decode cX12_from 51 = .ok (.iadd, 1) := by decide +kernel
theorem dX12_from_52 : decode cX12_from 52 = .ok (.iaload, 1) := by decide +kernel
theorem dX12_from_53 : decode cX12_from 53 = .ok (.putfield 84, 3) := by decide +kernel
theorem dX12_from_56 : decode cX12_from 56 = .ok (.aload_n 0, 1) := by decide +kernel
theorem dX12_from_57 : decode cX12_from 57 = .ok (.aload_n 0, 1) := by decide +kernel
theorem dX12_from_58 : decode cX12_from 58 = .ok (.getfield 65, 3) := by decide +kernel
theorem dX12_from_61 : decode cX12_from 61 = .ok (.iload_n 2, 1) := by decide +kernel
theorem dX12_from_62 : decode cX12_from 62 = .ok (.iconst 2, 1) := by decide +kernel
theorem dX12_from_63 : decode cX12_from 63 = .ok (.iadd, 1) := by decide +kernel
theorem dX12_from_64 : decode cX12_from 64 = .ok (.iaload, 1) := by decide +kernel
theorem dX12_from_65 : decode cX12_from 65 = .ok (.putfield 87, 3) := by decide +kernel
theorem dX12_from_68 : decode cX12_from 68 = .ok (.aload_n 0, 1) := by decide +kernel
theorem dX12_from_69 : decode cX12_from 69 = .ok (.aload_n 0, 1) := by decide +kernel
theorem dX12_from_70 : decode cX12_from 70 = .ok (.getfield 65, 3) := by decide +kernel
theorem dX12_from_73 : decode cX12_from 73 = .ok (.iload_n 2, 1) := by decide +kernel
theorem dX12_from_74 : decode cX12_from 74 = .ok (.iconst 3, 1) := by decide +kernel
theorem dX12_from_75 : decode cX12_from 75 = .ok (.iadd, 1) := by decide +kernel
theorem dX12_from_76 : decode cX12_from 76 = .ok (.iaload, 1) := by decide +kernel
theorem dX12_from_77 : decode cX12_from 77 = .ok (.putfield 90, 3) := by decide +kernel
theorem dX12_from_80 : decode cX12_from 80 = .ok (.aload_n 0, 1) := by decide +kernel
theorem dX12_from_81 : decode cX12_from 81 = .ok (.aload_n 0, 1) := by decide +kernel
theorem dX12_from_82 : decode cX12_from 82 = .ok (.getfield 65, 3) := by decide +kernel
theorem dX12_from_85 : decode cX12_from 85 = .ok (.iload_n 2, 1) := by decide +kernel
theorem dX12_from_86 : decode cX12_from 86 = .ok (.iconst 4, 1) := by decide +kernel
theorem dX12_from_87 : decode cX12_from 87 = .ok (.iadd, 1) := by decide +kernel
theorem dX12_from_88 : decode cX12_from 88 = .ok (.invokevirtual 196, 3) := by decide +kernel
theorem dX12_from_91 : decode cX12_from 91 = .ok (.iconst 0, 1) := by decide +kernel
theorem dX12_from_92 : decode cX12_from 92 = .ok (.istore_n 3, 1) := by decide +kernel
theorem dX12_from_93 : decode cX12_from 93 = .ok (.iload_n 3, 1) := by decide +kernel
theorem dX12_from_94 : decode cX12_from 94 = .ok (.bipush 6, 2) := by decide +kernel
theorem dX12_from_96 : decode cX12_from 96 = .ok (.if_icmp .ge 94, 3) := by decide +kernel
theorem dX12_from_99 : decode cX12_from 99 = .ok (.aload_n 0, 1) := by decide +kernel
theorem dX12_from_100 : decode cX12_from 100 = .ok (.getfield 13, 3) := by decide +kernel
theorem dX12_from_103 : decode cX12_from 103 = .ok (.iload_n 3, 1) := by decide +kernel
theorem dX12_from_104 : decode cX12_from 104 = .ok (.aload_n 0, 1) := by decide +kernel
theorem dX12_from_105 : decode cX12_from 105 = .ok (.getfield 65, 3) := by decide +kernel
theorem dX12_from_108 : decode cX12_from 108 = .ok (.iload_n 2, 1) := by decide +kernel
theorem dX12_from_109 : decode cX12_from 109 = .ok (.bipush 18, 2) := by decide +kernel
theorem dX12_from_111 : decode cX12_from 111 = .ok (.iadd, 1) := by decide +kernel
theorem dX12_from_112 : decode cX12_from 112 = .ok (.iload_n 3, 1) := by decide +kernel
theorem dX12_from_113 : decode cX12_from 113 = .ok (.iadd, 1) := by decide +kernel
theorem dX12_from_114 : decode cX12_from 114 = .ok (.iaload, 1) := by decide +kernel
theorem dX12_from_115 : decode cX12_from 115 = .ok (.iastore, 1) := by decide +kernel
theorem dX12_from_116 : decode cX12_from 116 = .ok (.aload_n 0, 1) := by decide +kernel
theorem dX12_from_117 : decode cX12_from 117 = .ok (.getfield 19, 3) := by decide +kernel
theorem dX12_from_120 : decode cX12_from 120 = .ok (.iload_n 3, 1) := by decide +kernel
theorem dX12_from_121 : decode cX12_from 121 = .ok (.aload_n 0, 1) := by decide +kernel
theorem dX12_from_122 : decode cX12_from 122 = .ok (.getfield 65, 3) := by decide +kernel
theorem dX12_from_125 : decode cX12_from 125 = .ok (.iload_n 2, 1) := by decide +kernel
theorem dX12_from_126 : decode cX12_from 126 = .ok (.bipush 24, 2) := by decide +kernel
theorem dX12_from_128 : decode cX12_from 128 = .ok (.iadd, 1) := by decide +kernel
theorem dX12_from_129 : decode cX12_from 129 = .ok (.iload_n 3, 1) := by decide +kernel
theorem dX12_from_130 : decode cX12_from 130 = .ok (.iadd, 1) := by decide +kernel
theorem dX12_from_131 : decode cX12_from 131 = .ok (.iaload, 1) := by decide +kernel
theorem dX12_from_132 : decode cX12_from 132 = .ok (.iastore, 1) := by decide +kernel
theorem dX12_from_133 : decode cX12_from 133 = .ok (.aload_n 0, 1) := by decide +kernel
theorem dX12_from_134 : decode cX12_from 134 = .ok (.getfield 25, 3) := by decide +kernel
theorem dX12_from_137 : decode cX12_from 137 = .ok (.iload_n 3, 1) := by decide +kernel
theorem dX12_from_138 : decode cX12_from 138 = .ok (.aload_n 0, 1) := by decide +kernel
theorem dX12_from_139 : decode cX12_from 139 = .ok (.getfield 65, 3) := by decide +kernel
theorem dX12_from_142 : decode cX12_from 142 = .ok (.iload_n 2, 1) := by decide +kernel
theorem dX12_from_143 : decode cX12_from 143 = .ok (.bipush 30, 2) := by decide +kernel
theorem dX12_from_145 : decode cX12_from 145 = .ok (.iadd, 1) := by decide +kernel
theorem dX12_from_146 : decode cX12_from 146 = .ok (.iload_n 3, 1) := by decide +kernel
theorem dX12_from_147 : decode cX12_from 147 = .ok (.iadd, 1) := by decide +kernel
theorem dX12_from_148 : decode cX12_from 148 = .ok (.iaload, 1) := by decide +kernel
theorem dX12_from_149 : decode cX12_from 149 = .ok (.iastore, 1) := by decide +kernel
theorem dX12_from_150 : decode cX12_from 150 = .ok (.aload_n 0, 1) := by decide +kernel
theorem dX12_from_151 : decode cX12_from 151 = .ok (.getfield 28, 3) := by decide +kernel
theorem dX12_from_154 : decode cX12_from 154 = .ok (.iload_n 3, 1) := by decide +kernel
theorem dX12_from_155 : decode cX12_from 155 = .ok (.aload_n 0, 1) := by decide +kernel
theorem dX12_from_156 : decode cX12_from 156 = .ok (.getfield 65, 3) := by decide +kernel
theorem dX12_from_159 : decode cX12_from 159 = .ok (.iload_n 2, 1) := by decide +kernel
theorem dX12_from_160 : decode cX12_from 160 = .ok (.bipush 36, 2) := by decide +kernel
theorem dX12_from_162 : decode cX12_from 162 = .ok (.iadd, 1) := by decide +kernel
theorem dX12_from_163 : decode cX12_from 163 = .ok (.iload_n 3, 1) := by decide +kernel
theorem dX12_from_164 : decode cX12_from 164 = .ok (.iadd, 1) := by decide +kernel
theorem dX12_from_165 : decode cX12_from 165 = .ok (.iaload, 1) := by decide +kernel
theorem dX12_from_166 : decode cX12_from 166 = .ok (.iastore, 1) := by decide +kernel
theorem dX12_from_167 : decode cX12_from 167 = .ok (.aload_n 0, 1) := by decide +kernel
theorem dX12_from_168 : decode cX12_from 168 = .ok (.getfield 31, 3) := by decide +kernel
theorem dX12_from_171 : decode cX12_from 171 = .ok (.iload_n 3, 1) := by decide +kernel
theorem dX12_from_172 : decode cX12_from 172 = .ok (.aload_n 0, 1) := by decide +kernel
theorem dX12_from_173 : decode cX12_from 173 = .ok (.getfield 65, 3) := by decide +kernel
theorem dX12_from_176 : decode cX12_from 176 = .ok (.iload_n 2, 1) := by decide +kernel
theorem dX12_from_177 : decode cX12_from 177 = .ok (.bipush 42, 2) := by decide +kernel
theorem dX12_from_179 : decode cX12_from 179 = .ok (.iadd, 1) := by decide +kernel
theorem dX12_from_180 : decode cX12_from 180 = .ok (.iload_n 3, 1) := by decide +kernel
theorem dX12_from_181 : decode cX12_from 181 = .ok (.iadd, 1) := by decide +kernel
theorem dX12_from_182 : decode cX12_from 182 = .ok (.iaload, 1) := by decide +kernel
theorem dX12_from_183 : decode cX12_from 183 = .ok (.iastore, 1) := by decide +kernel
theorem dX12_from_184 : decode cX12_from 184 = .ok (.iinc 3 1, 3) := by decide +kernel
theorem dX12_from_187 : decode cX12_from 187 = .ok (.goto (-94), 3) := by decide +kernel
theorem dX12_from_190 : decode cX12_from 190 = .ok (.iconst 0, 1) := by decide +kernel
theorem dX12_from_191 : decode cX12_from 191 = .ok (.istore_n 3, 1) := by decide +kernel
theorem dX12_from_192 : decode cX12_from 192 = .ok (.iload_n 3, 1) := by decide +kernel
theorem dX12_from_193 : decode cX12_from 193 = .ok (.bipush 112, 2) := by decide +kernel
theorem dX12_from_195 : decode cX12_from 195 = .ok (.if_icmp .ge 26, 3) := by decide +kernel
theorem dX12_from_198 : decode cX12_from 198 = .ok (.aload_n 0, 1) := by decide +kernel
theorem dX12_from_199 : decode cX12_from 199 = .ok (.getfield 43, 3) := by decide +kernel
theorem dX12_from_202 : decode cX12_from 202 = .ok (.iload_n 3, 1) := by decide +kernel
theorem dX12_from_203 : decode cX12_from 203 = .ok (.aload_n 0, 1) := by decide +kernel
theorem dX12_from_204 : decode cX12_from 204 = .ok (.getfield 65, 3) := by decide +kernel
theorem dX12_from_207 : decode cX12_from 207 = .ok (.iload_n 2, 1) := by decide +kernel
theorem dX12_from_208 : decode cX12_from 208 = .ok (.bipush 48, 2) := by decide +kernel
theorem dX12_from_210 : decode cX12_from 210 = .ok (.iadd, 1) := by decide +kernel
theorem dX12_from_211 : decode cX12_from 211 = .ok (.iload_n 3, 1) := by decide +kernel
theorem dX12_from_212 : decode cX12_from 212 = .ok (.iadd, 1) := by decide +kernel
theorem dX12_from_213 : decode cX12_from 213 = .ok (.iaload, 1) := by decide +kernel
theorem dX12_from_214 : decode cX12_from 214 = .ok (.iastore, 1) := by decide +kernel
theorem dX12_from_215 : decode cX12_from 215 = .ok (.iinc 3 1, 3) := by decide +kernel
theorem dX12_from_218 : decode cX12_from 218 = .ok (.goto (-26), 3) := by decide +kernel
theorem dX12_from_221 : decode cX12_from 221 = .ok (.iconst 1, 1) := by decide +kernel
theorem dX12_from_222 : decode cX12_from 222 = .ok (.ireturn, 1) := by decide +kernel
theorem dX12_status_0 : decode cX12_status 0 = .ok (.iload_n 1, 1) := by decide +kernel
theorem dX12_status_1 : decode cX12_status 1 = .ok (.iconst 0, 1) := by decide +kernel
theorem dX12_status_2 : decode cX12_status 2 = .ok (.iconst 2, 1) := by decide +kernel
theorem dX12_status_3 : decode cX12_status 3 = .ok (.invokestatic 93, 3) := by decide +kernel
theorem dX12_status_6 : decode cX12_status 6 = .ok (.ifCond .ne 15, 3) := by decide +kernel
theorem dX12_status_9 : decode cX12_status 9 = .ok (.aload_n 0, 1) := by decide +kernel
theorem dX12_status_10 : decode cX12_status 10 = .ok (.getfield 1, 3) := by decide +kernel
theorem dX12_status_13 : decode cX12_status 13 = .ok (.iconst 0, 1) := by decide +kernel
theorem dX12_status_14 : decode cX12_status 14 = .ok (.dup2, 1) := by decide +kernel
theorem dX12_status_15 : decode cX12_status 15 = .ok (.iaload, 1) := by decide +kernel
theorem dX12_status_16 : decode cX12_status 16 = .ok (.iconst 1, 1) := by decide +kernel
theorem dX12_status_17 : decode cX12_status 17 = .ok (.iadd, 1) := by decide +kernel
theorem dX12_status_18 : decode cX12_status 18 = .ok (.iastore, 1) := by decide +kernel
theorem dX12_status_19 : decode cX12_status 19 = .ok (.iconst (-1), 1) := by decide +kernel
theorem dX12_status_20 : decode cX12_status 20 = .ok (.ireturn, 1) := by decide +kernel
theorem dX12_status_21 : decode cX12_status 21 = .ok (.aload_n 0, 1) := by decide +kernel
theorem dX12_status_22 : decode cX12_status 22 = .ok (.getfield 1, 3) := by decide +kernel
theorem dX12_status_25 : decode cX12_status 25 = .ok (.iload_n 1, 1) := by decide +kernel
theorem dX12_status_26 : decode cX12_status 26 = .ok (.iaload, 1) := by decide +kernel
theorem dX12_status_27 : decode cX12_status 27 = .ok (.ireturn, 1) := by decide +kernel
theorem dX12_countOf_0 : decode cX12_countOf 0 = .ok (.iconst 0, 1) := by decide +kernel
theorem dX12_countOf_1 : decode cX12_countOf 1 = .ok (.istore_n 2, 1) := by decide +kernel
theorem dX12_countOf_2 : decode cX12_countOf 2 = .ok (.iconst 0, 1) := by decide +kernel
theorem dX12_countOf_3 : decode cX12_countOf 3 = .ok (.istore_n 3, 1) := by decide +kernel
theorem dX12_countOf_4 : decode cX12_countOf 4 = .ok (.iload_n 3, 1) := by decide +kernel
theorem dX12_countOf_5 : decode cX12_countOf 5 = .ok (.aload_n 0, 1) := by decide +kernel
theorem dX12_countOf_6 : decode cX12_countOf 6 = .ok (.getfield 74, 3) := by decide +kernel
theorem dX12_countOf_9 : decode cX12_countOf 9 = .ok (.if_icmp .ge 18, 3) := by decide +kernel
theorem dX12_countOf_12 : decode cX12_countOf 12 = .ok (.iload_n 2, 1) := by decide +kernel
theorem dX12_countOf_13 : decode cX12_countOf 13 = .ok (.aload_n 0, 1) := by decide +kernel
theorem dX12_countOf_14 : decode cX12_countOf 14 = .ok (.getfield 22, 3) := by decide +kernel
theorem dX12_countOf_17 : decode cX12_countOf 17 = .ok (.iload_n 3, 1) := by decide +kernel
theorem dX12_countOf_18 : decode cX12_countOf 18 = .ok (.iaload, 1) := by decide +kernel
theorem dX12_countOf_19 : decode cX12_countOf 19 = .ok (.iadd, 1) := by decide +kernel
theorem dX12_countOf_20 : decode cX12_countOf 20 = .ok (.istore_n 2, 1) := by decide +kernel
theorem dX12_countOf_21 : decode cX12_countOf 21 = .ok (.iinc 3 1, 3) := by decide +kernel
theorem dX12_countOf_24 : decode cX12_countOf 24 = .ok (.goto (-20), 3) := by decide +kernel
theorem dX12_countOf_27 : decode cX12_countOf 27 = .ok (.iload_n 1, 1) := by decide +kernel
theorem dX12_countOf_28 : decode cX12_countOf 28 = .ok (.tableswitch 67 0 5 #[40, 45, 50, 55, 57, 62], 40) := by decide +kernel
theorem dX12_countOf_68 : decode cX12_countOf 68 = .ok (.aload_n 0, 1) := by decide +kernel
theorem dX12_countOf_69 : decode cX12_countOf 69 = .ok (.getfield 74, 3) := by decide +kernel
theorem dX12_countOf_72 : decode cX12_countOf 72 = .ok (.ireturn, 1) := by decide +kernel
theorem dX12_countOf_73 : decode cX12_countOf 73 = .ok (.aload_n 0, 1) := by decide +kernel
theorem dX12_countOf_74 : decode cX12_countOf 74 = .ok (.getfield 84, 3) := by decide +kernel
theorem dX12_countOf_77 : decode cX12_countOf 77 = .ok (.ireturn, 1) := by decide +kernel
theorem dX12_countOf_78 : decode cX12_countOf 78 = .ok (.aload_n 0, 1) := by decide +kernel
theorem dX12_countOf_79 : decode cX12_countOf 79 = .ok (.getfield 81, 3) := by decide +kernel
theorem dX12_countOf_82 : decode cX12_countOf 82 = .ok (.ireturn, 1) := by decide +kernel
theorem dX12_countOf_83 : decode cX12_countOf 83 = .ok (.iload_n 2, 1) := by decide +kernel
theorem dX12_countOf_84 : decode cX12_countOf 84 = .ok (.ireturn, 1) := by decide +kernel
theorem dX12_countOf_85 : decode cX12_countOf 85 = .ok (.aload_n 0, 1) := by decide +kernel
theorem dX12_countOf_86 : decode cX12_countOf 86 = .ok (.getfield 87, 3) := by decide +kernel
theorem dX12_countOf_89 : decode cX12_countOf 89 = .ok (.ireturn, 1) := by decide +kernel
theorem dX12_countOf_90 : decode cX12_countOf 90 = .ok (.aload_n 0, 1) := by decide +kernel
theorem dX12_countOf_91 : decode cX12_countOf 91 = .ok (.getfield 90, 3) := by decide +kernel
theorem dX12_countOf_94 : decode cX12_countOf 94 = .ok (.ireturn, 1) := by decide +kernel
theorem dX12_countOf_95 : decode cX12_countOf 95 = .ok (.aload_n 0, 1) := by decide +kernel
theorem dX12_countOf_96 : decode cX12_countOf 96 = .ok (.getfield 119, 3) := by decide +kernel
theorem dX12_countOf_99 : decode cX12_countOf 99 = .ok (.ireturn, 1) := by decide +kernel
theorem dX12_count_0 : decode cX12_count 0 = .ok (.iload_n 1, 1) := by decide +kernel
theorem dX12_count_1 : decode cX12_count 1 = .ok (.iconst 0, 1) := by decide +kernel
theorem dX12_count_2 : decode cX12_count 2 = .ok (.bipush 6, 2) := by decide +kernel
theorem dX12_count_4 : decode cX12_count 4 = .ok (.invokestatic 93, 3) := by decide +kernel
theorem dX12_count_7 : decode cX12_count 7 = .ok (.ifCond .eq 11, 3) := by decide +kernel
theorem dX12_count_10 : decode cX12_count 10 = .ok (.aload_n 0, 1) := by decide +kernel
theorem dX12_count_11 : decode cX12_count 11 = .ok (.iload_n 1, 1) := by decide +kernel
theorem dX12_count_12 : decode cX12_count 12 = .ok (.invokevirtual 269, 3) := by decide +kernel
theorem dX12_count_15 : decode cX12_count 15 = .ok (.goto 7, 3) := by decide +kernel
theorem dX12_count_18 : decode cX12_count 18 = .ok (.aload_n 0, 1) := by decide +kernel
theorem dX12_count_19 : decode cX12_count 19 = .ok (.invokevirtual 97, 3) := by decide +kernel
theorem dX12_count_22 : decode cX12_count 22 = .ok (.ireturn, 1) := by decide +kernel
theorem dX12_mix_0 : decode cX12_mix 0 = .ok (.aload_n 0, 1) := by decide +kernel
theorem dX12_mix_1 : decode cX12_mix 1 = .ok (.ldc2_w 272, 3) := by decide +kernel
theorem dX12_mix_4 : decode cX12_mix 4 = .ok (.aload_n 0, 1) := by decide +kernel
theorem dX12_mix_5 : decode cX12_mix 5 = .ok (.getfield 274, 3) := by decide +kernel
theorem dX12_mix_8 : decode cX12_mix 8 = .ok (.lmul, 1) := by decide +kernel
theorem dX12_mix_9 : decode cX12_mix 9 = .ok (.lload_n 1, 1) := by decide +kernel
theorem dX12_mix_10 : decode cX12_mix 10 = .ok (.ladd, 1) := by decide +kernel
theorem dX12_mix_11 : decode cX12_mix 11 = .ok (.putfield 274, 3) := by decide +kernel
theorem dX12_mix_14 : decode cX12_mix 14 = .ok (.return_, 1) := by decide +kernel
theorem dX12_digest_0 : decode cX12_digest 0 = .ok (.aload_n 0, 1) := by decide +kernel
theorem dX12_digest_1 : decode cX12_digest 1 = .ok (.ldc2_w 277, 3) := by decide +kernel
theorem dX12_digest_4 : decode cX12_digest 4 = .ok (.putfield 274, 3) := by decide +kernel
theorem dX12_digest_7 : decode cX12_digest 7 = .ok (.iconst 0, 1) := by decide +kernel
theorem dX12_digest_8 : decode cX12_digest 8 = .ok (.istore_n 1, 1) := by decide +kernel
theorem dX12_digest_9 : decode cX12_digest 9 = .ok (.iload_n 1, 1) := by decide +kernel
theorem dX12_digest_10 : decode cX12_digest 10 = .ok (.bipush 6, 2) := by decide +kernel
theorem dX12_digest_12 : decode cX12_digest 12 = .ok (.if_icmp .gt 19, 3) := by decide +kernel
theorem dX12_digest_15 : decode cX12_digest 15 = .ok (.aload_n 0, 1) := by decide +kernel
theorem dX12_digest_16 : decode cX12_digest 16 = .ok (.aload_n 0, 1) := by decide +kernel
theorem dX12_digest_17 : decode cX12_digest 17 = .ok (.iload_n 1, 1) := by decide +kernel
theorem dX12_digest_18 : decode cX12_digest 18 = .ok (.invokevirtual 269, 3) := by decide +kernel
theorem dX12_digest_21 : decode cX12_digest 21 = .ok (.i2l, 1) := by decide +kernel
theorem dX12_digest_22 : decode cX12_digest 22 = .ok (.invokevirtual 279, 3) := by decide +kernel
theorem dX12_digest_25 : decode cX12_digest 25 = .ok (.iinc 1 1, 3) := by decide +kernel
theorem dX12_digest_28 : decode cX12_digest 28 = .ok (.goto (-19), 3) := by decide +kernel
theorem dX12_digest_31 : decode cX12_digest 31 = .ok (.aload_n 0, 1) := by decide +kernel
theorem dX12_digest_32 : decode cX12_digest 32 = .ok (.aload_n 0, 1) := by decide +kernel
theorem dX12_digest_33 : decode cX12_digest 33 = .ok (.getfield 78, 3) := by decide +kernel
theorem dX12_digest_36 : decode cX12_digest 36 = .ok (.i2l, 1) := by decide +kernel
theorem dX12_digest_37 : decode cX12_digest 37 = .ok (.invokevirtual 279, 3) := by decide +kernel
theorem dX12_digest_40 : decode cX12_digest 40 = .ok (.iconst 0, 1) := by decide +kernel
theorem dX12_digest_41 : decode cX12_digest 41 = .ok (.istore_n 1, 1) := by decide +kernel
theorem dX12_digest_42 : decode cX12_digest 42 = .ok (.iload_n 1, 1) := by decide +kernel
theorem dX12_digest_43 : decode cX12_digest 43 = .ok (.aload_n 0, 1) := by decide +kernel
theorem dX12_digest_44 : decode cX12_digest 44 = .ok (.getfield 74, 3) := by decide +kernel
theorem dX12_digest_47 : decode cX12_digest 47 = .ok (.if_icmp .ge 53, 3) := by decide +kernel
theorem dX12_digest_50 : decode cX12_digest 50 = .ok (.aload_n 0, 1) := by decide +kernel
theorem dX12_digest_51 : decode cX12_digest 51 = .ok (.aload_n 0, 1) := by decide +kernel
theorem dX12_digest_52 : decode cX12_digest 52 = .ok (.getfield 13, 3) := by decide +kernel
theorem dX12_digest_55 : decode cX12_digest 55 = .ok (.iload_n 1, 1) := by decide +kernel
theorem dX12_digest_56 : decode cX12_digest 56 = .ok (.iaload, 1) := by decide +kernel
theorem dX12_digest_57 : decode cX12_digest 57 = .ok (.i2l, 1) := by decide +kernel
theorem dX12_digest_58 : decode cX12_digest 58 = .ok (.invokevirtual 279, 3) := by decide +kernel
theorem dX12_digest_61 : decode cX12_digest 61 = .ok (.aload_n 0, 1) := by decide +kernel
theorem dX12_digest_62 : decode cX12_digest 62 = .ok (.aload_n 0, 1) := by decide +kernel
theorem dX12_digest_63 : decode cX12_digest 63 = .ok (.getfield 16, 3) := by decide +kernel
theorem dX12_digest_66 : decode cX12_digest 66 = .ok (.iload_n 1, 1) := by decide +kernel
theorem dX12_digest_67 : decode cX12_digest 67 = .ok (.iaload, 1) := by decide +kernel
theorem dX12_digest_68 : decode cX12_digest 68 = .ok (.i2l, 1) := by decide +kernel
theorem dX12_digest_69 : decode cX12_digest 69 = .ok (.invokevirtual 279, 3) := by decide +kernel
theorem dX12_digest_72 : decode cX12_digest 72 = .ok (.aload_n 0, 1) := by decide +kernel
theorem dX12_digest_73 : decode cX12_digest 73 = .ok (.aload_n 0, 1) := by decide +kernel
theorem dX12_digest_74 : decode cX12_digest 74 = .ok (.getfield 19, 3) := by decide +kernel
theorem dX12_digest_77 : decode cX12_digest 77 = .ok (.iload_n 1, 1) := by decide +kernel
theorem dX12_digest_78 : decode cX12_digest 78 = .ok (.iaload, 1) := by decide +kernel
theorem dX12_digest_79 : decode cX12_digest 79 = .ok (.i2l, 1) := by decide +kernel
theorem dX12_digest_80 : decode cX12_digest 80 = .ok (.invokevirtual 279, 3) := by decide +kernel
theorem dX12_digest_83 : decode cX12_digest 83 = .ok (.aload_n 0, 1) := by decide +kernel
theorem dX12_digest_84 : decode cX12_digest 84 = .ok (.aload_n 0, 1) := by decide +kernel
theorem dX12_digest_85 : decode cX12_digest 85 = .ok (.getfield 22, 3) := by decide +kernel
theorem dX12_digest_88 : decode cX12_digest 88 = .ok (.iload_n 1, 1) := by decide +kernel
theorem dX12_digest_89 : decode cX12_digest 89 = .ok (.iaload, 1) := by decide +kernel
theorem dX12_digest_90 : decode cX12_digest 90 = .ok (.i2l, 1) := by decide +kernel
theorem dX12_digest_91 : decode cX12_digest 91 = .ok (.invokevirtual 279, 3) := by decide +kernel
theorem dX12_digest_94 : decode cX12_digest 94 = .ok (.iinc 1 1, 3) := by decide +kernel
theorem dX12_digest_97 : decode cX12_digest 97 = .ok (.goto (-55), 3) := by decide +kernel
theorem dX12_digest_100 : decode cX12_digest 100 = .ok (.iconst 0, 1) := by decide +kernel
theorem dX12_digest_101 : decode cX12_digest 101 = .ok (.istore_n 1, 1) := by decide +kernel
theorem dX12_digest_102 : decode cX12_digest 102 = .ok (.iload_n 1, 1) := by decide +kernel
theorem dX12_digest_103 : decode cX12_digest 103 = .ok (.aload_n 0, 1) := by decide +kernel
theorem dX12_digest_104 : decode cX12_digest 104 = .ok (.getfield 84, 3) := by decide +kernel
theorem dX12_digest_107 : decode cX12_digest 107 = .ok (.if_icmp .ge 20, 3) := by decide +kernel
theorem dX12_digest_110 : decode cX12_digest 110 = .ok (.aload_n 0, 1) := by decide +kernel
theorem dX12_digest_111 : decode cX12_digest 111 = .ok (.aload_n 0, 1) := by decide +kernel
theorem dX12_digest_112 : decode cX12_digest 112 = .ok (.getfield 25, 3) := by decide +kernel
theorem dX12_digest_115 : decode cX12_digest 115 = .ok (.iload_n 1, 1) := by decide +kernel
theorem dX12_digest_116 : decode cX12_digest 116 = .ok (.iaload, 1) := by decide +kernel
theorem dX12_digest_117 : decode cX12_digest 117 = .ok (.i2l, 1) := by decide +kernel
theorem dX12_digest_118 : decode cX12_digest 118 = .ok (.invokevirtual 279, 3) := by decide +kernel
theorem dX12_digest_121 : decode cX12_digest 121 = .ok (.iinc 1 1, 3) := by decide +kernel
theorem dX12_digest_124 : decode cX12_digest 124 = .ok (.goto (-22), 3) := by decide +kernel
theorem dX12_digest_127 : decode cX12_digest 127 = .ok (.iconst 0, 1) := by decide +kernel
theorem dX12_digest_128 : decode cX12_digest 128 = .ok (.istore_n 1, 1) := by decide +kernel
theorem dX12_digest_129 : decode cX12_digest 129 = .ok (.iload_n 1, 1) := by decide +kernel
theorem dX12_digest_130 : decode cX12_digest 130 = .ok (.aload_n 0, 1) := by decide +kernel
theorem dX12_digest_131 : decode cX12_digest 131 = .ok (.getfield 87, 3) := by decide +kernel
theorem dX12_digest_134 : decode cX12_digest 134 = .ok (.if_icmp .ge 31, 3) := by decide +kernel
theorem dX12_digest_137 : decode cX12_digest 137 = .ok (.aload_n 0, 1) := by decide +kernel
theorem dX12_digest_138 : decode cX12_digest 138 = .ok (.aload_n 0, 1) := by decide +kernel
theorem dX12_digest_139 : decode cX12_digest 139 = .ok (.getfield 28, 3) := by decide +kernel
theorem dX12_digest_142 : decode cX12_digest 142 = .ok (.iload_n 1, 1) := by decide +kernel
theorem dX12_digest_143 : decode cX12_digest 143 = .ok (.iaload, 1) := by decide +kernel
theorem dX12_digest_144 : decode cX12_digest 144 = .ok (.i2l, 1) := by decide +kernel
theorem dX12_digest_145 : decode cX12_digest 145 = .ok (.invokevirtual 279, 3) := by decide +kernel
theorem dX12_digest_148 : decode cX12_digest 148 = .ok (.aload_n 0, 1) := by decide +kernel
theorem dX12_digest_149 : decode cX12_digest 149 = .ok (.aload_n 0, 1) := by decide +kernel
theorem dX12_digest_150 : decode cX12_digest 150 = .ok (.getfield 31, 3) := by decide +kernel
theorem dX12_digest_153 : decode cX12_digest 153 = .ok (.iload_n 1, 1) := by decide +kernel
theorem dX12_digest_154 : decode cX12_digest 154 = .ok (.iaload, 1) := by decide +kernel
theorem dX12_digest_155 : decode cX12_digest 155 = .ok (.i2l, 1) := by decide +kernel
theorem dX12_digest_156 : decode cX12_digest 156 = .ok (.invokevirtual 279, 3) := by decide +kernel
theorem dX12_digest_159 : decode cX12_digest 159 = .ok (.iinc 1 1, 3) := by decide +kernel
theorem dX12_digest_162 : decode cX12_digest 162 = .ok (.goto (-33), 3) := by decide +kernel
theorem dX12_digest_165 : decode cX12_digest 165 = .ok (.aload_n 0, 1) := by decide +kernel
theorem dX12_digest_166 : decode cX12_digest 166 = .ok (.aload_n 0, 1) := by decide +kernel
theorem dX12_digest_167 : decode cX12_digest 167 = .ok (.getfield 249, 3) := by decide +kernel
theorem dX12_digest_170 : decode cX12_digest 170 = .ok (.invokevirtual 279, 3) := by decide +kernel
theorem dX12_digest_173 : decode cX12_digest 173 = .ok (.aload_n 0, 1) := by decide +kernel
theorem dX12_digest_174 : decode cX12_digest 174 = .ok (.aload_n 0, 1) := by decide +kernel
theorem dX12_digest_175 : decode cX12_digest 175 = .ok (.getfield 61, 3) := by decide +kernel
theorem dX12_digest_178 : decode cX12_digest 178 = .ok (.invokevirtual 279, 3) := by decide +kernel
theorem dX12_digest_181 : decode cX12_digest 181 = .ok (.aload_n 0, 1) := by decide +kernel
theorem dX12_digest_182 : decode cX12_digest 182 = .ok (.getfield 274, 3) := by decide +kernel
theorem dX12_digest_185 : decode cX12_digest 185 = .ok (.lreturn, 1) := by decide +kernel
theorem dJ6_compare_7cf53_0 : decode cJ6_compare_7cf53 0 = .ok (.iload_n 0, 1) := by decide +kernel
theorem dJ6_compare_7cf53_1 : decode cJ6_compare_7cf53 1 = .ok (.iload_n 1, 1) := by decide +kernel
theorem dJ6_compare_7cf53_2 : decode cJ6_compare_7cf53 2 = .ok (.if_icmp .ge 7, 3) := by decide +kernel
theorem dJ6_compare_7cf53_5 : decode cJ6_compare_7cf53 5 = .ok (.iconst (-1), 1) := by decide +kernel
theorem dJ6_compare_7cf53_6 : decode cJ6_compare_7cf53 6 = .ok (.goto 13, 3) := by decide +kernel
theorem dJ6_compare_7cf53_9 : decode cJ6_compare_7cf53 9 = .ok (.iload_n 0, 1) := by decide +kernel
theorem dJ6_compare_7cf53_10 : decode cJ6_compare_7cf53 10 = .ok (.iload_n 1, 1) := by decide +kernel
theorem dJ6_compare_7cf53_11 : decode cJ6_compare_7cf53 11 = .ok (.if_icmp .ne 7, 3) := by decide +kernel
theorem dJ6_compare_7cf53_14 : decode cJ6_compare_7cf53 14 = .ok (.iconst 0, 1) := by decide +kernel
theorem dJ6_compare_7cf53_15 : decode cJ6_compare_7cf53 15 = .ok (.goto 4, 3) := by decide +kernel
theorem dJ6_compare_7cf53_18 : decode cJ6_compare_7cf53 18 = .ok (.iconst 1, 1) := by decide +kernel
theorem dJ6_compare_7cf53_19 : decode cJ6_compare_7cf53 19 = .ok (.ireturn, 1) := by decide +kernel
theorem dJ6_bitCount_0f7a4_0 : decode cJ6_bitCount_0f7a4 0 = .ok (.iload_n 0, 1) := by decide +kernel
theorem dJ6_bitCount_0f7a4_1 : decode cJ6_bitCount_0f7a4 1 = .ok (.iload_n 0, 1) := by decide +kernel
theorem dJ6_bitCount_0f7a4_2 : decode cJ6_bitCount_0f7a4 2 = .ok (.iconst 1, 1) := by decide +kernel
theorem dJ6_bitCount_0f7a4_3 : decode cJ6_bitCount_0f7a4 3 = .ok (.iushr, 1) := by decide +kernel
theorem dJ6_bitCount_0f7a4_4 : decode cJ6_bitCount_0f7a4 4 = .ok (.ldc_w 265, 3) := by decide +kernel
theorem dJ6_bitCount_0f7a4_7 : decode cJ6_bitCount_0f7a4 7 = .ok (.iand, 1) := by decide +kernel
theorem dJ6_bitCount_0f7a4_8 : decode cJ6_bitCount_0f7a4 8 = .ok (.isub, 1) := by decide +kernel
theorem dJ6_bitCount_0f7a4_9 : decode cJ6_bitCount_0f7a4 9 = .ok (.istore_n 0, 1) := by decide +kernel
theorem dJ6_bitCount_0f7a4_10 : decode cJ6_bitCount_0f7a4 10 = .ok (.iload_n 0, 1) := by decide +kernel
theorem dJ6_bitCount_0f7a4_11 : decode cJ6_bitCount_0f7a4 11 = .ok (.ldc_w 266, 3) := by decide +kernel
theorem dJ6_bitCount_0f7a4_14 : decode cJ6_bitCount_0f7a4 14 = .ok (.iand, 1) := by decide +kernel
theorem dJ6_bitCount_0f7a4_15 : decode cJ6_bitCount_0f7a4 15 = .ok (.iload_n 0, 1) := by decide +kernel
theorem dJ6_bitCount_0f7a4_16 : decode cJ6_bitCount_0f7a4 16 = .ok (.iconst 2, 1) := by decide +kernel
theorem dJ6_bitCount_0f7a4_17 : decode cJ6_bitCount_0f7a4 17 = .ok (.iushr, 1) := by decide +kernel
theorem dJ6_bitCount_0f7a4_18 : decode cJ6_bitCount_0f7a4 18 = .ok (.ldc_w 266, 3) := by decide +kernel
theorem dJ6_bitCount_0f7a4_21 : decode cJ6_bitCount_0f7a4 21 = .ok (.iand, 1) := by decide +kernel
theorem dJ6_bitCount_0f7a4_22 : decode cJ6_bitCount_0f7a4 22 = .ok (.iadd, 1) := by decide +kernel
theorem dJ6_bitCount_0f7a4_23 : decode cJ6_bitCount_0f7a4 23 = .ok (.istore_n 0, 1) := by decide +kernel
theorem dJ6_bitCount_0f7a4_24 : decode cJ6_bitCount_0f7a4 24 = .ok (.iload_n 0, 1) := by decide +kernel
theorem dJ6_bitCount_0f7a4_25 : decode cJ6_bitCount_0f7a4 25 = .ok (.iload_n 0, 1) := by decide +kernel
theorem dJ6_bitCount_0f7a4_26 : decode cJ6_bitCount_0f7a4 26 = .ok (.iconst 4, 1) := by decide +kernel
theorem dJ6_bitCount_0f7a4_27 : decode cJ6_bitCount_0f7a4 27 = .ok (.iushr, 1) := by decide +kernel
theorem dJ6_bitCount_0f7a4_28 : decode cJ6_bitCount_0f7a4 28 = .ok (.iadd, 1) := by decide +kernel
theorem dJ6_bitCount_0f7a4_29 : decode cJ6_bitCount_0f7a4 29 = .ok (.ldc_w 267, 3) := by decide +kernel
theorem dJ6_bitCount_0f7a4_32 : decode cJ6_bitCount_0f7a4 32 = .ok (.iand, 1) := by decide +kernel
theorem dJ6_bitCount_0f7a4_33 : decode cJ6_bitCount_0f7a4 33 = .ok (.istore_n 0, 1) := by decide +kernel
theorem dJ6_bitCount_0f7a4_34 : decode cJ6_bitCount_0f7a4 34 = .ok (.iload_n 0, 1) := by decide +kernel
theorem dJ6_bitCount_0f7a4_35 : decode cJ6_bitCount_0f7a4 35 = .ok (.iload_n 0, 1) := by decide +kernel
theorem dJ6_bitCount_0f7a4_36 : decode cJ6_bitCount_0f7a4 36 = .ok (.bipush 8, 2) := by decide +kernel
theorem dJ6_bitCount_0f7a4_38 : decode cJ6_bitCount_0f7a4 38 = .ok (.iushr, 1) := by decide +kernel
theorem dJ6_bitCount_0f7a4_39 : decode cJ6_bitCount_0f7a4 39 = .ok (.iadd, 1) := by decide +kernel
theorem dJ6_bitCount_0f7a4_40 : decode cJ6_bitCount_0f7a4 40 = .ok (.istore_n 0, 1) := by decide +kernel
theorem dJ6_bitCount_0f7a4_41 : decode cJ6_bitCount_0f7a4 41 = .ok (.iload_n 0, 1) := by decide +kernel
theorem dJ6_bitCount_0f7a4_42 : decode cJ6_bitCount_0f7a4 42 = .ok (.iload_n 0, 1) := by decide +kernel
theorem dJ6_bitCount_0f7a4_43 : decode cJ6_bitCount_0f7a4 43 = .ok (.bipush 16, 2) := by decide +kernel
theorem dJ6_bitCount_0f7a4_45 : decode cJ6_bitCount_0f7a4 45 = .ok (.iushr, 1) := by decide +kernel
theorem dJ6_bitCount_0f7a4_46 : decode cJ6_bitCount_0f7a4 46 = .ok (.iadd, 1) := by decide +kernel
theorem dJ6_bitCount_0f7a4_47 : decode cJ6_bitCount_0f7a4 47 = .ok (.istore_n 0, 1) := by decide +kernel
theorem dJ6_bitCount_0f7a4_48 : decode cJ6_bitCount_0f7a4 48 = .ok (.iload_n 0, 1) := by decide +kernel
theorem dJ6_bitCount_0f7a4_49 : decode cJ6_bitCount_0f7a4 49 = .ok (.bipush 63, 2) := by decide +kernel
theorem dJ6_bitCount_0f7a4_51 : decode cJ6_bitCount_0f7a4 51 = .ok (.iand, 1) := by decide +kernel
theorem dJ6_bitCount_0f7a4_52 : decode cJ6_bitCount_0f7a4 52 = .ok (.ireturn, 1) := by decide +kernel
theorem dJ9_abs_0f7a4_0 : decode cJ9_abs_0f7a4 0 = .ok (.iload_n 0, 1) := by decide +kernel
theorem dJ9_abs_0f7a4_1 : decode cJ9_abs_0f7a4 1 = .ok (.ifCond .ge 8, 3) := by decide +kernel
theorem dJ9_abs_0f7a4_4 : decode cJ9_abs_0f7a4 4 = .ok (.iload_n 0, 1) := by decide +kernel
theorem dJ9_abs_0f7a4_5 : decode cJ9_abs_0f7a4 5 = .ok (.ineg, 1) := by decide +kernel
theorem dJ9_abs_0f7a4_6 : decode cJ9_abs_0f7a4 6 = .ok (.goto 4, 3) := by decide +kernel
theorem dJ9_abs_0f7a4_9 : decode cJ9_abs_0f7a4 9 = .ok (.iload_n 0, 1) := by decide +kernel
theorem dJ9_abs_0f7a4_10 : decode cJ9_abs_0f7a4 10 = .ok (.ireturn, 1) := by decide +kernel
theorem dJ9_max_7cf53_0 : decode cJ9_max_7cf53 0 = .ok (.iload_n 0, 1) := by decide +kernel
theorem dJ9_max_7cf53_1 : decode cJ9_max_7cf53 1 = .ok (.iload_n 1, 1) := by decide +kernel
theorem dJ9_max_7cf53_2 : decode cJ9_max_7cf53 2 = .ok (.if_icmp .lt 7, 3) := by decide +kernel
theorem dJ9_max_7cf53_5 : decode cJ9_max_7cf53 5 = .ok (.iload_n 0, 1) := by decide +kernel
theorem dJ9_max_7cf53_6 : decode cJ9_max_7cf53 6 = .ok (.goto 4, 3) := by decide +kernel
theorem dJ9_max_7cf53_9 : decode cJ9_max_7cf53 9 = .ok (.iload_n 1, 1) := by decide +kernel
theorem dJ9_max_7cf53_10 : decode cJ9_max_7cf53 10 = .ok (.ireturn, 1) := by decide +kernel
theorem dJ9_min_7cf53_0 : decode cJ9_min_7cf53 0 = .ok (.iload_n 0, 1) := by decide +kernel
theorem dJ9_min_7cf53_1 : decode cJ9_min_7cf53 1 = .ok (.iload_n 1, 1) := by decide +kernel
theorem dJ9_min_7cf53_2 : decode cJ9_min_7cf53 2 = .ok (.if_icmp .gt 7, 3) := by decide +kernel
theorem dJ9_min_7cf53_5 : decode cJ9_min_7cf53 5 = .ok (.iload_n 0, 1) := by decide +kernel
theorem dJ9_min_7cf53_6 : decode cJ9_min_7cf53 6 = .ok (.goto 4, 3) := by decide +kernel
theorem dJ9_min_7cf53_9 : decode cJ9_min_7cf53 9 = .ok (.iload_n 1, 1) := by decide +kernel
theorem dJ9_min_7cf53_10 : decode cJ9_min_7cf53 10 = .ok (.ireturn, 1) := by decide +kernel
theorem dJ0_length_8abf5_0 : decode cJ0_length_8abf5 0 = .ok (.aload_n 0, 1) := by decide +kernel
theorem dJ0_length_8abf5_1 : decode cJ0_length_8abf5 1 = .ok (.getfield 9, 3) := by decide +kernel
theorem dJ0_length_8abf5_4 : decode cJ0_length_8abf5 4 = .ok (.arraylength, 1) := by decide +kernel
theorem dJ0_length_8abf5_5 : decode cJ0_length_8abf5 5 = .ok (.aload_n 0, 1) := by decide +kernel
theorem dJ0_length_8abf5_6 : decode cJ0_length_8abf5 6 = .ok (.invokevirtual 335, 3) := by decide +kernel
theorem dJ0_length_8abf5_9 : decode cJ0_length_8abf5 9 = .ok (.ishr, 1) := by decide +kernel
theorem dJ0_length_8abf5_10 : decode cJ0_length_8abf5 10 = .ok (.ireturn, 1) := by decide +kernel
theorem dJ0_charAt_5068e_0 : decode cJ0_charAt_5068e 0 = .ok (.aload_n 0, 1) := by decide +kernel
theorem dJ0_charAt_5068e_1 : decode cJ0_charAt_5068e 1 = .ok (.invokevirtual 492, 3) := by decide +kernel
theorem dJ0_charAt_5068e_4 : decode cJ0_charAt_5068e 4 = .ok (.ifCond .eq 12, 3) := by decide +kernel
theorem dJ0_charAt_5068e_7 : decode cJ0_charAt_5068e 7 = .ok (.aload_n 0, 1) := by decide +kernel
theorem dJ0_charAt_5068e_8 : decode cJ0_charAt_5068e 8 = .ok (.getfield 9, 3) := by decide +kernel
theorem dJ0_charAt_5068e_11 : decode cJ0_charAt_5068e 11 = .ok (.iload_n 1, 1) := by decide +kernel
theorem dJ0_charAt_5068e_12 : decode cJ0_charAt_5068e 12 = .ok (.invokestatic 495, 3) := by decide +kernel
theorem dJ0_charAt_5068e_15 : decode cJ0_charAt_5068e 15 = .ok (.ireturn, 1) := by decide +kernel
theorem dJ0_charAt_5068e_16 : decode cJ0_charAt_5068e 16 = .ok (.aload_n 0, 1) := by decide +kernel
theorem dJ0_charAt_5068e_17 : decode cJ0_charAt_5068e 17 = .ok (.getfield 9, 3) := by decide +kernel
theorem dJ0_charAt_5068e_20 : decode cJ0_charAt_5068e 20 = .ok (.iload_n 1, 1) := by decide +kernel
theorem dJ0_charAt_5068e_21 : decode cJ0_charAt_5068e 21 = .ok (.invokestatic 498, 3) := by decide +kernel
theorem dJ0_charAt_5068e_24 : decode cJ0_charAt_5068e 24 = .ok (.ireturn, 1) := by decide +kernel
theorem dJ0_coder_7d493_0 : decode cJ0_coder_7d493 0 = .ok (.getstatic 38, 3) := by decide +kernel
theorem dJ0_coder_7d493_3 : decode cJ0_coder_7d493 3 = .ok (.ifCond .eq 10, 3) := by decide +kernel
theorem dJ0_coder_7d493_6 : decode cJ0_coder_7d493 6 = .ok (.aload_n 0, 1) := by decide +kernel
theorem dJ0_coder_7d493_7 : decode cJ0_coder_7d493 7 = .ok (.getfield 15, 3) := by decide +kernel
theorem dJ0_coder_7d493_10 : decode cJ0_coder_7d493 10 = .ok (.goto 4, 3) := by decide +kernel
theorem dJ0_coder_7d493_13 : decode cJ0_coder_7d493 13 = .ok (.iconst 1, 1) := by decide +kernel
theorem dJ0_coder_7d493_14 : decode cJ0_coder_7d493 14 = .ok (.ireturn, 1) := by decide +kernel
theorem dJ0_isLatin1_aae02_0 : decode cJ0_isLatin1_aae02 0 = .ok (.getstatic 38, 3) := by decide +kernel
theorem dJ0_isLatin1_aae02_3 : decode cJ0_isLatin1_aae02 3 = .ok (.ifCond .eq 14, 3) := by decide +kernel
theorem dJ0_isLatin1_aae02_6 : decode cJ0_isLatin1_aae02 6 = .ok (.aload_n 0, 1) := by decide +kernel
theorem dJ0_isLatin1_aae02_7 : decode cJ0_isLatin1_aae02 7 = .ok (.getfield 15, 3) := by decide +kernel
theorem dJ0_isLatin1_aae02_10 : decode cJ0_isLatin1_aae02 10 = .ok (.ifCond .ne 7, 3) := by decide +kernel
theorem dJ0_isLatin1_aae02_13 : decode cJ0_isLatin1_aae02 13 = .ok (.iconst 1, 1) := by decide +kernel
theorem dJ0_isLatin1_aae02_14 : decode cJ0_isLatin1_aae02 14 = .ok (.goto 4, 3) := by decide +kernel
theorem dJ0_isLatin1_aae02_17 : decode cJ0_isLatin1_aae02 17 = .ok (.iconst 0, 1) := by decide +kernel
theorem dJ0_isLatin1_aae02_18 : decode cJ0_isLatin1_aae02 18 = .ok (.ireturn, 1) := by decide +kernel
theorem dJ0_checkIndex_df160_0 : decode cJ0_checkIndex_df160 0 = .ok (.iload_n 0, 1) := by decide +kernel
theorem dJ0_checkIndex_df160_1 : decode cJ0_checkIndex_df160 1 = .ok (.iload_n 1, 1) := by decide +kernel
theorem dJ0_checkIndex_df160_2 : decode cJ0_checkIndex_df160 2 = .ok (.getstatic 1053, 3) := by decide +kernel
theorem dJ0_checkIndex_df160_5 : decode cJ0_checkIndex_df160 5 = .ok (.invokestatic 1059, 3) := by decide +kernel
theorem dJ0_checkIndex_df160_8 : decode cJ0_checkIndex_df160 8 = .ok (.pop, 1) := by decide +kernel
theorem dJ0_checkIndex_df160_9 : decode cJ0_checkIndex_df160 9 = .ok (.return_, 1) := by decide +kernel
theorem dJ1_charAt_3b067_0 : decode cJ1_charAt_3b067 0 = .ok (.iload_n 1, 1) := by decide +kernel
theorem dJ1_charAt_3b067_1 : decode cJ1_charAt_3b067 1 = .ok (.aload_n 0, 1) := by decide +kernel
theorem dJ1_charAt_3b067_2 : decode cJ1_charAt_3b067 2 = .ok (.arraylength, 1) := by decide +kernel
theorem dJ1_charAt_3b067_3 : decode cJ1_charAt_3b067 3 = .ok (.invokestatic 9, 3) := by decide +kernel
theorem dJ1_charAt_3b067_6 : decode cJ1_charAt_3b067 6 = .ok (.aload_n 0, 1) := by decide +kernel
theorem dJ1_charAt_3b067_7 : decode cJ1_charAt_3b067 7 = .ok (.iload_n 1, 1) := by decide +kernel
theorem dJ1_charAt_3b067_8 : decode cJ1_charAt_3b067 8 = .ok (.baload, 1) := by decide +kernel
theorem dJ1_charAt_3b067_9 : decode cJ1_charAt_3b067 9 = .ok (.sipush 255, 3) := by decide +kernel
theorem dJ1_charAt_3b067_12 : decode cJ1_charAt_3b067 12 = .ok (.iand, 1) := by decide +kernel
theorem dJ1_charAt_3b067_13 : decode cJ1_charAt_3b067 13 = .ok (.i2c, 1) := by decide +kernel
theorem dJ1_charAt_3b067_14 : decode cJ1_charAt_3b067 14 = .ok (.ireturn, 1) := by decide +kernel
theorem dJ2_getChar_3b067_0 : decode cJ2_getChar_3b067 0 = .ok (.getstatic 44, 3) := by decide +kernel
theorem dJ2_getChar_3b067_3 : decode cJ2_getChar_3b067 3 = .ok (.ifCond .ne 25, 3) := by decide +kernel
theorem dJ2_getChar_3b067_6 : decode cJ2_getChar_3b067 6 = .ok (.iload_n 1, 1) := by decide +kernel
theorem dJ2_getChar_3b067_7 : decode cJ2_getChar_3b067 7 = .ok (.ifCond .lt 11, 3) := by decide +kernel
theorem dJ2_getChar_3b067_10 : decode cJ2_getChar_3b067 10 = .ok (.iload_n 1, 1) := by decide +kernel
theorem dJ2_getChar_3b067_11 : decode cJ2_getChar_3b067 11 = .ok (.aload_n 0, 1) := by decide +kernel
theorem dJ2_getChar_3b067_12 : decode cJ2_getChar_3b067 12 = .ok (.invokestatic 48, 3) := by decide +kernel
theorem dJ2_getChar_3b067_15 : decode cJ2_getChar_3b067 15 = .ok (.if_icmp .lt 13, 3) := by decide +kernel
theorem dJ2_getChar_3b067_18 : decode cJ2_getChar_3b067 18 = .ok (.new 52, 3) := by decide +kernel
theorem dJ2_getChar_3b067_21 : decode cJ2_getChar_3b067 21 = .ok (.dup, 1) := by decide +kernel
theorem dJ2_getChar_3b067_22 : decode cJ2_getChar_3b067 22 = .ok (.ldc 54, 2) := by decide +kernel
theorem dJ2_getChar_3b067_24 : decode cJ2_getChar_3b067 24 = .ok (.invokespecial 56, 3) := by decide +kernel
theorem dJ2_getChar_3b067_27 : decode cJ2_getChar_3b067 27 = .ok (.athrow, 1) := by decide +kernel
theorem dJ2_getChar_3b067_28 : decode cJ2_getChar_3b067 28 = .ok (.iload_n 1, 1) := by decide +kernel
theorem dJ2_getChar_3b067_29 : decode cJ2_getChar_3b067 29 = .ok (.iconst 1, 1) := by decide +kernel
theorem dJ2_getChar_3b067_30 : decode cJ2_getChar_3b067 30 = .ok (.ishl, 1) := by decide +kernel
theorem dJ2_getChar_3b067_31 : decode cJ2_getChar_3b067 31 = .ok (.istore_n 1, 1) := by decide +kernel
theorem dJ2_getChar_3b067_32 : decode cJ2_getChar_3b067 32 = .ok (.aload_n 0, 1) := by decide +kernel
theorem dJ2_getChar_3b067_33 : decode cJ2_getChar_3b067 33 = .ok (.iload_n 1, 1) := by decide +kernel
theorem dJ2_getChar_3b067_34 : decode cJ2_getChar_3b067 34 = .ok (.iinc 1 1, 3) := by decide +kernel
theorem dJ2_getChar_3b067_37 : decode cJ2_getChar_3b067 37 = .ok (.baload, 1) := by decide +kernel
theorem dJ2_getChar_3b067_38 : decode cJ2_getChar_3b067 38 = .ok (.sipush 255, 3) := by decide +kernel
theorem dJ2_getChar_3b067_41 : decode cJ2_getChar_3b067 41 = .ok (.iand, 1) := by decide +kernel
theorem dJ2_getChar_3b067_42 : decode cJ2_getChar_3b067 42 = .ok (.getstatic 59, 3) := by decide +kernel
theorem dJ2_getChar_3b067_45 : decode cJ2_getChar_3b067 45 = .ok (.ishl, 1) := by decide +kernel
theorem dJ2_getChar_3b067_46 : decode cJ2_getChar_3b067 46 = .ok (.aload_n 0, 1) := by decide +kernel
theorem dJ2_getChar_3b067_47 : decode cJ2_getChar_3b067 47 = .ok (.iload_n 1, 1) := by decide +kernel
theorem dJ2_getChar_3b067_48 : decode cJ2_getChar_3b067 48 = .ok (.baload, 1) := by decide +kernel
theorem dJ2_getChar_3b067_49 : decode cJ2_getChar_3b067 49 = .ok (.sipush 255, 3) := by decide +kernel
theorem dJ2_getChar_3b067_52 : decode cJ2_getChar_3b067 52 = .ok (.iand, 1) := by decide +kernel
theorem dJ2_getChar_3b067_53 : decode cJ2_getChar_3b067 53 = .ok (.getstatic 63, 3) := by decide +kernel
theorem dJ2_getChar_3b067_56 : decode cJ2_getChar_3b067 56 = .ok (.ishl, 1) := by decide +kernel
theorem dJ2_getChar_3b067_57 : decode cJ2_getChar_3b067 57 = .ok (.ior, 1) := by decide +kernel
theorem dJ2_getChar_3b067_58 : decode cJ2_getChar_3b067 58 = .ok (.i2c, 1) := by decide +kernel
theorem dJ2_getChar_3b067_59 : decode cJ2_getChar_3b067 59 = .ok (.ireturn, 1) := by decide +kernel
theorem dJ2_length_9d52b_0 : decode cJ2_length_9d52b 0 = .ok (.aload_n 0, 1) := by decide +kernel
theorem dJ2_length_9d52b_1 : decode cJ2_length_9d52b 1 = .ok (.arraylength, 1) := by decide +kernel
theorem dJ2_length_9d52b_2 : decode cJ2_length_9d52b 2 = .ok (.iconst 1, 1) := by decide +kernel
theorem dJ2_length_9d52b_3 : decode cJ2_length_9d52b 3 = .ok (.ishr, 1) := by decide +kernel
theorem dJ2_length_9d52b_4 : decode cJ2_length_9d52b 4 = .ok (.ireturn, 1) := by decide +kernel
theorem dJ2_charAt_3b067_0 : decode cJ2_charAt_3b067 0 = .ok (.iload_n 1, 1) := by decide +kernel
theorem dJ2_charAt_3b067_1 : decode cJ2_charAt_3b067 1 = .ok (.aload_n 0, 1) := by decide +kernel
theorem dJ2_charAt_3b067_2 : decode cJ2_charAt_3b067 2 = .ok (.invokestatic 67, 3) := by decide +kernel
theorem dJ2_charAt_3b067_5 : decode cJ2_charAt_3b067 5 = .ok (.aload_n 0, 1) := by decide +kernel
theorem dJ2_charAt_3b067_6 : decode cJ2_charAt_3b067 6 = .ok (.iload_n 1, 1) := by decide +kernel
theorem dJ2_charAt_3b067_7 : decode cJ2_charAt_3b067 7 = .ok (.invokestatic 71, 3) := by decide +kernel
theorem dJ2_charAt_3b067_10 : decode cJ2_charAt_3b067 10 = .ok (.ireturn, 1) := by decide +kernel
theorem dJ2_checkIndex_2214a_0 : decode cJ2_checkIndex_2214a 0 = .ok (.iload_n 0, 1) := by decide +kernel
theorem dJ2_checkIndex_2214a_1 : decode cJ2_checkIndex_2214a 1 = .ok (.aload_n 1, 1) := by decide +kernel
theorem dJ2_checkIndex_2214a_2 : decode cJ2_checkIndex_2214a 2 = .ok (.invokestatic 48, 3) := by decide +kernel
theorem dJ2_checkIndex_2214a_5 : decode cJ2_checkIndex_2214a 5 = .ok (.invokestatic 414, 3) := by decide +kernel
theorem dJ2_checkIndex_2214a_8 : decode cJ2_checkIndex_2214a 8 = .ok (.return_, 1) := by decide +kernel
theorem dJ3_checkIndex_8e157_0 : decode cJ3_checkIndex_8e157 0 = .ok (.iload_n 0, 1) := by decide +kernel
theorem dJ3_checkIndex_8e157_1 : decode cJ3_checkIndex_8e157 1 = .ok (.ifCond .lt 8, 3) := by decide +kernel
theorem dJ3_checkIndex_8e157_4 : decode cJ3_checkIndex_8e157 4 = .ok (.iload_n 0, 1) := by decide +kernel
theorem dJ3_checkIndex_8e157_5 : decode cJ3_checkIndex_8e157 5 = .ok (.iload_n 1, 1) := by decide +kernel
theorem dJ3_checkIndex_8e157_6 : decode cJ3_checkIndex_8e157 6 = .ok (.if_icmp .lt 10, 3) := by decide +kernel
theorem dJ3_checkIndex_8e157_9 : decode cJ3_checkIndex_8e157 9 = .ok (.aload_n 2, 1) := by decide +kernel
theorem dJ3_checkIndex_8e157_10 : decode cJ3_checkIndex_8e157 10 = .ok (.iload_n 0, 1) := by decide +kernel
theorem dJ3_checkIndex_8e157_11 : decode cJ3_checkIndex_8e157 11 = .ok (.iload_n 1, 1) := by decide +kernel
theorem dJ3_checkIndex_8e157_12 : decode cJ3_checkIndex_8e157 12 = .ok (.invokestatic 95, 3) := by decide +kernel
theorem dJ3_checkIndex_8e157_15 : decode cJ3_checkIndex_8e157 15 = .ok (.athrow, 1) := by decide +kernel
theorem dJ3_checkIndex_8e157_16 : decode cJ3_checkIndex_8e157 16 = .ok (.iload_n 0, 1) := by decide +kernel
theorem dJ3_checkIndex_8e157_17 : decode cJ3_checkIndex_8e157 17 = .ok (.ireturn, 1) := by decide +kernel
theorem dL_law_0 : decode cL_law 0 = .ok (.new 7, 3) := by decide +kernel
theorem dL_law_3 : decode cL_law 3 = .ok (.dup, 1) := by decide +kernel
theorem dL_law_4 : decode cL_law 4 = .ok (.invokespecial 9, 3) := by decide +kernel
theorem dL_law_7 : decode cL_law 7 = .ok (.astore_n 1, 1) := by decide +kernel
theorem dL_law_8 : decode cL_law 8 = .ok (.new 10, 3) := by decide +kernel
theorem dL_law_11 : decode cL_law 11 = .ok (.dup, 1) := by decide +kernel
theorem dL_law_12 : decode cL_law 12 = .ok (.invokespecial 12, 3) := by decide +kernel
theorem dL_law_15 : decode cL_law 15 = .ok (.astore_n 2, 1) := by decide +kernel
theorem dL_law_16 : decode cL_law 16 = .ok (.iconst 0, 1) := by decide +kernel
theorem dL_law_17 : decode cL_law 17 = .ok (.istore_n 3, 1) := by decide +kernel
theorem dL_law_18 : decode cL_law 18 = .ok (.iload_n 3, 1) := by decide +kernel
theorem dL_law_19 : decode cL_law 19 = .ok (.aload_n 0, 1) := by decide +kernel
theorem dL_law_20 : decode cL_law 20 = .ok (.arraylength, 1) := by decide +kernel
theorem dL_law_21 : decode cL_law 21 = .ok (.iconst 4, 1) := by decide +kernel
theorem dL_law_22 : decode cL_law 22 = .ok (.isub, 1) := by decide +kernel
theorem dL_law_23 : decode cL_law 23 = .ok (.if_icmp .gt 910, 3) := by decide +kernel
theorem dL_law_26 : decode cL_law 26 = .ok (.aload_n 0, 1) := by decide +kernel
theorem dL_law_27 : decode cL_law 27 = .ok (.iload_n 3, 1) := by decide +kernel
theorem dL_law_28 : decode cL_law 28 = .ok (.iaload, 1) := by decide +kernel
theorem dL_law_29 : decode cL_law 29 = .ok (.bipush 31, 2) := by decide +kernel
theorem dL_law_31 : decode cL_law 31 = .ok (.iand, 1) := by decide +kernel
theorem dL_law_32 : decode cL_law 32 = .ok (.tableswitch 895 0 30 #[140, 153, 176, 219, 242, 255, 268, 291, 304, 317, 350, 373, 406, 419, 462, 485, 518, 551, 564, 587, 610, 633, 656, 699, 732, 765, 789, 812, 835, 858, 881], 140) := by decide +kernel
theorem dL_law_172 : decode cL_law 172 = .ok (.aload_n 1, 1) := by decide +kernel
theorem dL_law_173 : decode cL_law 173 = .ok (.invokevirtual 13, 3) := by decide +kernel
theorem dL_law_176 : decode cL_law 176 = .ok (.aload_n 2, 1) := by decide +kernel
theorem dL_law_177 : decode cL_law 177 = .ok (.invokevirtual 17, 3) := by decide +kernel
theorem dL_law_180 : decode cL_law 180 = .ok (.if_icmp .eq 747, 3) := by decide +kernel
theorem dL_law_183 : decode cL_law 183 = .ok (.iconst 0, 1) := by decide +kernel
theorem dL_law_184 : decode cL_law 184 = .ok (.ireturn, 1) := by decide +kernel
theorem dL_law_185 : decode cL_law 185 = .ok (.aload_n 1, 1) := by decide +kernel
theorem dL_law_186 : decode cL_law 186 = .ok (.aload_n 0, 1) := by decide +kernel
theorem dL_law_187 : decode cL_law 187 = .ok (.iload_n 3, 1) := by decide +kernel
theorem dL_law_188 : decode cL_law 188 = .ok (.iconst 1, 1) := by decide +kernel
theorem dL_law_189 : decode cL_law 189 = .ok (.iadd, 1) := by decide +kernel
theorem dL_law_190 : decode cL_law 190 = .ok (.iaload, 1) := by decide +kernel
theorem dL_law_191 : decode cL_law 191 = .ok (.invokevirtual 18, 3) := by decide +kernel
theorem dL_law_194 : decode cL_law 194 = .ok (.aload_n 2, 1) := by decide +kernel
theorem dL_law_195 : decode cL_law 195 = .ok (.aload_n 0, 1) := by decide +kernel
theorem dL_law_196 : decode cL_law 196 = .ok (.iload_n 3, 1) := by decide +kernel
theorem dL_law_197 : decode cL_law 197 = .ok (.iconst 1, 1) := by decide +kernel
theorem dL_law_198 : decode cL_law 198 = .ok (.iadd, 1) := by decide +kernel
theorem dL_law_199 : decode cL_law 199 = .ok (.iaload, 1) := by decide +kernel
theorem dL_law_200 : decode cL_law 200 = .ok (.invokevirtual 22, 3) := by decide +kernel
theorem dL_law_203 : decode cL_law 203 = .ok (.if_icmp .eq 724, 3) := by decide +kernel
theorem dL_law_206 : decode cL_law 206 = .ok (.iconst 0, 1) := by decide +kernel
theorem dL_law_207 : decode cL_law 207 = .ok (.ireturn, 1) := by decide +kernel
theorem dL_law_208 : decode cL_law 208 = .ok (.aload_n 1, 1) := by decide +kernel
theorem dL_law_209 : decode cL_law 209 = .ok (.aload_n 0, 1) := by decide +kernel
theorem dL_law_210 : decode cL_law 210 = .ok (.iload_n 3, 1) := by decide +kernel
theorem dL_law_211 : decode cL_law 211 = .ok (.iconst 1, 1) := by decide +kernel
theorem dL_law_212 : decode cL_law 212 = .ok (.iadd, 1) := by decide +kernel
theorem dL_law_213 : decode cL_law 213 = .ok (.iaload, 1) := by decide +kernel
theorem dL_law_214 : decode cL_law 214 = .ok (.aload_n 0, 1) := by decide +kernel
theorem dL_law_215 : decode cL_law 215 = .ok (.iload_n 3, 1) := by decide +kernel
theorem dL_law_216 : decode cL_law 216 = .ok (.iconst 2, 1) := by decide +kernel
theorem dL_law_217 : decode cL_law 217 = .ok (.iadd, 1) := by decide +kernel
theorem dL_law_218 : decode cL_law 218 = .ok (.iaload, 1) := by decide +kernel
theorem dL_law_219 : decode cL_law 219 = .ok (.aload_n 0, 1) := by decide +kernel
theorem dL_law_220 : decode cL_law 220 = .ok (.iload_n 3, 1) := by decide +kernel
theorem dL_law_221 : decode cL_law 221 = .ok (.iconst 3, 1) := by decide +kernel
theorem dL_law_222 : decode cL_law 222 = .ok (.iadd, 1) := by decide +kernel
theorem dL_law_223 : decode cL_law 223 = .ok (.iaload, 1) := by decide +kernel
theorem dL_law_224 : decode cL_law 224 = .ok (.invokevirtual 23, 3) := by decide +kernel
theorem dL_law_227 : decode cL_law 227 = .ok (.aload_n 2, 1) := by decide +kernel
theorem dL_law_228 : decode cL_law 228 = .ok (.aload_n 0, 1) := by decide +kernel
theorem dL_law_229 : decode cL_law 229 = .ok (.iload_n 3, 1) := by decide +kernel
theorem dL_law_230 : decode cL_law 230 = .ok (.iconst 1, 1) := by decide +kernel
theorem dL_law_231 : decode cL_law 231 = .ok (.iadd, 1) := by decide +kernel
theorem dL_law_232 : decode cL_law 232 = .ok (.iaload, 1) := by decide +kernel
theorem dL_law_233 : decode cL_law 233 = .ok (.aload_n 0, 1) := by decide +kernel
theorem dL_law_234 : decode cL_law 234 = .ok (.iload_n 3, 1) := by decide +kernel
theorem dL_law_235 : decode cL_law 235 = .ok (.iconst 2, 1) := by decide +kernel
theorem dL_law_236 : decode cL_law 236 = .ok (.iadd, 1) := by decide +kernel
theorem dL_law_237 : decode cL_law 237 = .ok (.iaload, 1) := by decide +kernel
theorem dL_law_238 : decode cL_law 238 = .ok (.aload_n 0, 1) := by decide +kernel
theorem dL_law_239 : decode cL_law 239 = .ok (.iload_n 3, 1) := by decide +kernel
theorem dL_law_240 : decode cL_law 240 = .ok (.iconst 3, 1) := by decide +kernel
theorem dL_law_241 : decode cL_law 241 = .ok (.iadd, 1) := by decide +kernel
theorem dL_law_242 : decode cL_law 242 = .ok (.iaload, 1) := by decide +kernel
theorem dL_law_243 : decode cL_law 243 = .ok (.invokevirtual 27, 3) := by decide +kernel
theorem dL_law_246 : decode cL_law 246 = .ok (.if_icmp .eq 681, 3) := by decide +kernel
theorem dL_law_249 : decode cL_law 249 = .ok (.iconst 0, 1) := by decide +kernel
theorem dL_law_250 : decode cL_law 250 = .ok (.ireturn, 1) := by decide +kernel
theorem dL_law_251 : decode cL_law 251 = .ok (.aload_n 1, 1) := by decide +kernel
theorem dL_law_252 : decode cL_law 252 = .ok (.aload_n 0, 1) := by decide +kernel
theorem dL_law_253 : decode cL_law 253 = .ok (.iload_n 3, 1) := by decide +kernel
theorem dL_law_254 : decode cL_law 254 = .ok (.iconst 1, 1) := by decide +kernel
theorem dL_law_255 : decode cL_law 255 = .ok (.iadd, 1) := by decide +kernel
theorem dL_law_256 : decode cL_law 256 = .ok (.iaload, 1) := by decide +kernel
theorem dL_law_257 : decode cL_law 257 = .ok (.invokevirtual 28, 3) := by decide +kernel
theorem dL_law_260 : decode cL_law 260 = .ok (.aload_n 2, 1) := by decide +kernel
theorem dL_law_261 : decode cL_law 261 = .ok (.aload_n 0, 1) := by decide +kernel
theorem dL_law_262 : decode cL_law 262 = .ok (.iload_n 3, 1) := by decide +kernel
theorem dL_law_263 : decode cL_law 263 = .ok (.iconst 1, 1) := by decide +kernel
theorem dL_law_264 : decode cL_law 264 = .ok (.iadd, 1) := by decide +kernel
theorem dL_law_265 : decode cL_law 265 = .ok (.iaload, 1) := by decide +kernel
theorem dL_law_266 : decode cL_law 266 = .ok (.invokevirtual 31, 3) := by decide +kernel
theorem dL_law_269 : decode cL_law 269 = .ok (.if_icmp .eq 658, 3) := by decide +kernel
theorem dL_law_272 : decode cL_law 272 = .ok (.iconst 0, 1) := by decide +kernel
theorem dL_law_273 : decode cL_law 273 = .ok (.ireturn, 1) := by decide +kernel
theorem dL_law_274 : decode cL_law 274 = .ok (.aload_n 1, 1) := by decide +kernel
theorem dL_law_275 : decode cL_law 275 = .ok (.invokevirtual 32, 3) := by decide +kernel
theorem dL_law_278 : decode cL_law 278 = .ok (.aload_n 2, 1) := by decide +kernel
theorem dL_law_279 : decode cL_law 279 = .ok (.invokevirtual 35, 3) := by decide +kernel
theorem dL_law_282 : decode cL_law 282 = .ok (.if_icmp .eq 645, 3) := by decide +kernel
theorem dL_law_285 : decode cL_law 285 = .ok (.iconst 0, 1) := by decide +kernel
theorem dL_law_286 : decode cL_law 286 = .ok (.ireturn, 1) := by decide +kernel
theorem dL_law_287 : decode cL_law 287 = .ok (.aload_n 1, 1) := by decide +kernel
theorem dL_law_288 : decode cL_law 288 = .ok (.invokevirtual 36, 3) := by decide +kernel
theorem dL_law_291 : decode cL_law 291 = .ok (.aload_n 2, 1) := by decide +kernel
theorem dL_law_292 : decode cL_law 292 = .ok (.invokevirtual 39, 3) := by decide +kernel
theorem dL_law_295 : decode cL_law 295 = .ok (.if_icmp .eq 632, 3) := by decide +kernel
theorem dL_law_298 : decode cL_law 298 = .ok (.iconst 0, 1) := by decide +kernel
theorem dL_law_299 : decode cL_law 299 = .ok (.ireturn, 1) := by decide +kernel
theorem dL_law_300 : decode cL_law 300 = .ok (.aload_n 1, 1) := by decide +kernel
theorem dL_law_301 : decode cL_law 301 = .ok (.aload_n 0, 1) := by decide +kernel
theorem dL_law_302 : decode cL_law 302 = .ok (.iload_n 3, 1) := by decide +kernel
theorem dL_law_303 : decode cL_law 303 = .ok (.iconst 1, 1) := by decide +kernel
theorem dL_law_304 : decode cL_law 304 = .ok (.iadd, 1) := by decide +kernel
theorem dL_law_305 : decode cL_law 305 = .ok (.iaload, 1) := by decide +kernel
theorem dL_law_306 : decode cL_law 306 = .ok (.invokevirtual 40, 3) := by decide +kernel
theorem dL_law_309 : decode cL_law 309 = .ok (.aload_n 2, 1) := by decide +kernel
theorem dL_law_310 : decode cL_law 310 = .ok (.aload_n 0, 1) := by decide +kernel
theorem dL_law_311 : decode cL_law 311 = .ok (.iload_n 3, 1) := by decide +kernel
theorem dL_law_312 : decode cL_law 312 = .ok (.iconst 1, 1) := by decide +kernel
theorem dL_law_313 : decode cL_law 313 = .ok (.iadd, 1) := by decide +kernel
theorem dL_law_314 : decode cL_law 314 = .ok (.iaload, 1) := by decide +kernel
theorem dL_law_315 : decode cL_law 315 = .ok (.invokevirtual 43, 3) := by decide +kernel
theorem dL_law_318 : decode cL_law 318 = .ok (.if_icmp .eq 609, 3) := by decide +kernel
theorem dL_law_321 : decode cL_law 321 = .ok (.iconst 0, 1) := by decide +kernel
theorem dL_law_322 : decode cL_law 322 = .ok (.ireturn, 1) := by decide +kernel
theorem dL_law_323 : decode cL_law 323 = .ok (.aload_n 1, 1) := by decide +kernel
theorem dL_law_324 : decode cL_law 324 = .ok (.invokevirtual 44, 3) := by decide +kernel
theorem dL_law_327 : decode cL_law 327 = .ok (.aload_n 2, 1) := by decide +kernel
theorem dL_law_328 : decode cL_law 328 = .ok (.invokevirtual 47, 3) := by decide +kernel
theorem dL_law_331 : decode cL_law 331 = .ok (.if_icmp .eq 596, 3) := by decide +kernel
theorem dL_law_334 : decode cL_law 334 = .ok (.iconst 0, 1) := by decide +kernel
theorem dL_law_335 : decode cL_law 335 = .ok (.ireturn, 1) := by decide +kernel
theorem dL_law_336 : decode cL_law 336 = .ok (.aload_n 1, 1) := by decide +kernel
theorem dL_law_337 : decode cL_law 337 = .ok (.invokevirtual 48, 3) := by decide +kernel
theorem dL_law_340 : decode cL_law 340 = .ok (.aload_n 2, 1) := by decide +kernel
theorem dL_law_341 : decode cL_law 341 = .ok (.invokevirtual 51, 3) := by decide +kernel
theorem dL_law_344 : decode cL_law 344 = .ok (.if_icmp .eq 583, 3) := by decide +kernel
theorem dL_law_347 : decode cL_law 347 = .ok (.iconst 0, 1) := by decide +kernel
theorem dL_law_348 : decode cL_law 348 = .ok (.ireturn, 1) := by decide +kernel
theorem dL_law_349 : decode cL_law 349 = .ok (.aload_n 1, 1) := by decide +kernel
theorem dL_law_350 : decode cL_law 350 = .ok (.aload_n 0, 1) := by decide +kernel
theorem dL_law_351 : decode cL_law 351 = .ok (.iload_n 3, 1) := by decide +kernel
theorem dL_law_352 : decode cL_law 352 = .ok (.iconst 1, 1) := by decide +kernel
theorem dL_law_353 : decode cL_law 353 = .ok (.iadd, 1) := by decide +kernel
theorem dL_law_354 : decode cL_law 354 = .ok (.iaload, 1) := by decide +kernel
theorem dL_law_355 : decode cL_law 355 = .ok (.aload_n 0, 1) := by decide +kernel
theorem dL_law_356 : decode cL_law 356 = .ok (.iload_n 3, 1) := by decide +kernel
theorem dL_law_357 : decode cL_law 357 = .ok (.iconst 2, 1) := by decide +kernel
theorem dL_law_358 : decode cL_law 358 = .ok (.iadd, 1) := by decide +kernel
theorem dL_law_359 : decode cL_law 359 = .ok (.iaload, 1) := by decide +kernel
theorem dL_law_360 : decode cL_law 360 = .ok (.invokevirtual 52, 3) := by decide +kernel
theorem dL_law_363 : decode cL_law 363 = .ok (.aload_n 2, 1) := by decide +kernel
theorem dL_law_364 : decode cL_law 364 = .ok (.aload_n 0, 1) := by decide +kernel
theorem dL_law_365 : decode cL_law 365 = .ok (.iload_n 3, 1) := by decide +kernel
theorem dL_law_366 : decode cL_law 366 = .ok (.iconst 1, 1) := by decide +kernel
theorem dL_law_367 : decode cL_law 367 = .ok (.iadd, 1) := by decide +kernel
theorem dL_law_368 : decode cL_law 368 = .ok (.iaload, 1) := by decide +kernel
theorem dL_law_369 : decode cL_law 369 = .ok (.aload_n 0, 1) := by decide +kernel
theorem dL_law_370 : decode cL_law 370 = .ok (.iload_n 3, 1) := by decide +kernel
theorem dL_law_371 : decode cL_law 371 = .ok (.iconst 2, 1) := by decide +kernel
theorem dL_law_372 : decode cL_law 372 = .ok (.iadd, 1) := by decide +kernel
theorem dL_law_373 : decode cL_law 373 = .ok (.iaload, 1) := by decide +kernel
theorem dL_law_374 : decode cL_law 374 = .ok (.invokevirtual 56, 3) := by decide +kernel
theorem dL_law_377 : decode cL_law 377 = .ok (.if_icmp .eq 550, 3) := by decide +kernel
theorem dL_law_380 : decode cL_law 380 = .ok (.iconst 0, 1) := by decide +kernel
theorem dL_law_381 : decode cL_law 381 = .ok (.ireturn, 1) := by decide +kernel
theorem dL_law_382 : decode cL_law 382 = .ok (.aload_n 1, 1) := by decide +kernel
theorem dL_law_383 : decode cL_law 383 = .ok (.aload_n 0, 1) := by decide +kernel
theorem dL_law_384 : decode cL_law 384 = .ok (.iload_n 3, 1) := by decide +kernel
theorem dL_law_385 : decode cL_law 385 = .ok (.iconst 1, 1) := by decide +kernel
theorem dL_law_386 : decode cL_law 386 = .ok (.iadd, 1) := by decide +kernel
theorem dL_law_387 : decode cL_law 387 = .ok (.iaload, 1) := by decide +kernel
theorem dL_law_388 : decode cL_law 388 = .ok (.invokevirtual 57, 3) := by decide +kernel
theorem dL_law_391 : decode cL_law 391 = .ok (.aload_n 2, 1) := by decide +kernel
theorem dL_law_392 : decode cL_law 392 = .ok (.aload_n 0, 1) := by decide +kernel
theorem dL_law_393 : decode cL_law 393 = .ok (.iload_n 3, 1) := by decide +kernel
theorem dL_law_394 : decode cL_law 394 = .ok (.iconst 1, 1) := by decide +kernel
theorem dL_law_395 : decode cL_law 395 = .ok (.iadd, 1) := by decide +kernel
theorem dL_law_396 : decode cL_law 396 = .ok (.iaload, 1) := by decide +kernel
theorem dL_law_397 : decode cL_law 397 = .ok (.invokevirtual 60, 3) := by decide +kernel
theorem dL_law_400 : decode cL_law 400 = .ok (.if_icmp .eq 527, 3) := by decide +kernel
theorem dL_law_403 : decode cL_law 403 = .ok (.iconst 0, 1) := by decide +kernel
theorem dL_law_404 : decode cL_law 404 = .ok (.ireturn, 1) := by decide +kernel
theorem dL_law_405 : decode cL_law 405 = .ok (.aload_n 1, 1) := by decide +kernel
theorem dL_law_406 : decode cL_law 406 = .ok (.aload_n 0, 1) := by decide +kernel
theorem dL_law_407 : decode cL_law 407 = .ok (.iload_n 3, 1) := by decide +kernel
theorem dL_law_408 : decode cL_law 408 = .ok (.iconst 1, 1) := by decide +kernel
theorem dL_law_409 : decode cL_law 409 = .ok (.iadd, 1) := by decide +kernel
theorem dL_law_410 : decode cL_law 410 = .ok (.iaload, 1) := by decide +kernel
theorem dL_law_411 : decode cL_law 411 = .ok (.aload_n 0, 1) := by decide +kernel
theorem dL_law_412 : decode cL_law 412 = .ok (.iload_n 3, 1) := by decide +kernel
theorem dL_law_413 : decode cL_law 413 = .ok (.iconst 2, 1) := by decide +kernel
theorem dL_law_414 : decode cL_law 414 = .ok (.iadd, 1) := by decide +kernel
theorem dL_law_415 : decode cL_law 415 = .ok (.iaload, 1) := by decide +kernel
theorem dL_law_416 : decode cL_law 416 = .ok (.invokevirtual 61, 3) := by decide +kernel
theorem dL_law_419 : decode cL_law 419 = .ok (.aload_n 2, 1) := by decide +kernel
theorem dL_law_420 : decode cL_law 420 = .ok (.aload_n 0, 1) := by decide +kernel
theorem dL_law_421 : decode cL_law 421 = .ok (.iload_n 3, 1) := by decide +kernel
theorem dL_law_422 : decode cL_law 422 = .ok (.iconst 1, 1) := by decide +kernel
theorem dL_law_423 : decode cL_law 423 = .ok (.iadd, 1) := by decide +kernel
theorem dL_law_424 : decode cL_law 424 = .ok (.iaload, 1) := by decide +kernel
theorem dL_law_425 : decode cL_law 425 = .ok (.aload_n 0, 1) := by decide +kernel
theorem dL_law_426 : decode cL_law 426 = .ok (.iload_n 3, 1) := by decide +kernel
theorem dL_law_427 : decode cL_law 427 = .ok (.iconst 2, 1) := by decide +kernel
theorem dL_law_428 : decode cL_law 428 = .ok (.iadd, 1) := by decide +kernel
theorem dL_law_429 : decode cL_law 429 = .ok (.iaload, 1) := by decide +kernel
theorem dL_law_430 : decode cL_law 430 = .ok (.invokevirtual 64, 3) := by decide +kernel
theorem dL_law_433 : decode cL_law 433 = .ok (.if_icmp .eq 494, 3) := by decide +kernel
theorem dL_law_436 : decode cL_law 436 = .ok (.iconst 0, 1) := by decide +kernel
theorem dL_law_437 : decode cL_law 437 = .ok (.ireturn, 1) := by decide +kernel
theorem dL_law_438 : decode cL_law 438 = .ok (.aload_n 1, 1) := by decide +kernel
theorem dL_law_439 : decode cL_law 439 = .ok (.invokevirtual 65, 3) := by decide +kernel
theorem dL_law_442 : decode cL_law 442 = .ok (.aload_n 2, 1) := by decide +kernel
theorem dL_law_443 : decode cL_law 443 = .ok (.invokevirtual 68, 3) := by decide +kernel
theorem dL_law_446 : decode cL_law 446 = .ok (.if_icmp .eq 481, 3) := by decide +kernel
theorem dL_law_449 : decode cL_law 449 = .ok (.iconst 0, 1) := by decide +kernel
theorem dL_law_450 : decode cL_law 450 = .ok (.ireturn, 1) := by decide +kernel
theorem dL_law_451 : decode cL_law 451 = .ok (.aload_n 1, 1) := by decide +kernel
theorem dL_law_452 : decode cL_law 452 = .ok (.aload_n 0, 1) := by decide +kernel
theorem dL_law_453 : decode cL_law 453 = .ok (.iload_n 3, 1) := by decide +kernel
theorem dL_law_454 : decode cL_law 454 = .ok (.iconst 1, 1) := by decide +kernel
theorem dL_law_455 : decode cL_law 455 = .ok (.iadd, 1) := by decide +kernel
theorem dL_law_456 : decode cL_law 456 = .ok (.iaload, 1) := by decide +kernel
theorem dL_law_457 : decode cL_law 457 = .ok (.aload_n 0, 1) := by decide +kernel
theorem dL_law_458 : decode cL_law 458 = .ok (.iload_n 3, 1) := by decide +kernel
theorem dL_law_459 : decode cL_law 459 = .ok (.iconst 2, 1) := by decide +kernel
theorem dL_law_460 : decode cL_law 460 = .ok (.iadd, 1) := by decide +kernel
theorem dL_law_461 : decode cL_law 461 = .ok (.iaload, 1) := by decide +kernel
theorem dL_law_462 : decode cL_law 462 = .ok (.aload_n 0, 1) := by decide +kernel
theorem dL_law_463 : decode cL_law 463 = .ok (.iload_n 3, 1) := by decide +kernel
theorem dL_law_464 : decode cL_law 464 = .ok (.iconst 3, 1) := by decide +kernel
theorem dL_law_465 : decode cL_law 465 = .ok (.iadd, 1) := by decide +kernel
theorem dL_law_466 : decode cL_law 466 = .ok (.iaload, 1) := by decide +kernel
theorem dL_law_467 : decode cL_law 467 = .ok (.invokevirtual 69, 3) := by decide +kernel
theorem dL_law_470 : decode cL_law 470 = .ok (.aload_n 2, 1) := by decide +kernel
theorem dL_law_471 : decode cL_law 471 = .ok (.aload_n 0, 1) := by decide +kernel
theorem dL_law_472 : decode cL_law 472 = .ok (.iload_n 3, 1) := by decide +kernel
theorem dL_law_473 : decode cL_law 473 = .ok (.iconst 1, 1) := by decide +kernel
theorem dL_law_474 : decode cL_law 474 = .ok (.iadd, 1) := by decide +kernel
theorem dL_law_475 : decode cL_law 475 = .ok (.iaload, 1) := by decide +kernel
theorem dL_law_476 : decode cL_law 476 = .ok (.aload_n 0, 1) := by decide +kernel
theorem dL_law_477 : decode cL_law 477 = .ok (.iload_n 3, 1) := by decide +kernel
theorem dL_law_478 : decode cL_law 478 = .ok (.iconst 2, 1) := by decide +kernel
theorem dL_law_479 : decode cL_law 479 = .ok (.iadd, 1) := by decide +kernel
theorem dL_law_480 : decode cL_law 480 = .ok (.iaload, 1) := by decide +kernel
theorem dL_law_481 : decode cL_law 481 = .ok (.aload_n 0, 1) := by decide +kernel
theorem dL_law_482 : decode cL_law 482 = .ok (.iload_n 3, 1) := by decide +kernel
theorem dL_law_483 : decode cL_law 483 = .ok (.iconst 3, 1) := by decide +kernel
theorem dL_law_484 : decode cL_law 484 = .ok (.iadd, 1) := by decide +kernel
theorem dL_law_485 : decode cL_law 485 = .ok (.iaload, 1) := by decide +kernel
theorem dL_law_486 : decode cL_law 486 = .ok (.invokevirtual 72, 3) := by decide +kernel
theorem dL_law_489 : decode cL_law 489 = .ok (.if_icmp .eq 438, 3) := by decide +kernel
theorem dL_law_492 : decode cL_law 492 = .ok (.iconst 0, 1) := by decide +kernel
theorem dL_law_493 : decode cL_law 493 = .ok (.ireturn, 1) := by decide +kernel
theorem dL_law_494 : decode cL_law 494 = .ok (.aload_n 1, 1) := by decide +kernel
theorem dL_law_495 : decode cL_law 495 = .ok (.aload_n 0, 1) := by decide +kernel
theorem dL_law_496 : decode cL_law 496 = .ok (.iload_n 3, 1) := by decide +kernel
theorem dL_law_497 : decode cL_law 497 = .ok (.iconst 1, 1) := by decide +kernel
theorem dL_law_498 : decode cL_law 498 = .ok (.iadd, 1) := by decide +kernel
theorem dL_law_499 : decode cL_law 499 = .ok (.iaload, 1) := by decide +kernel
theorem dL_law_500 : decode cL_law 500 = .ok (.invokevirtual 73, 3) := by decide +kernel
theorem dL_law_503 : decode cL_law 503 = .ok (.aload_n 2, 1) := by decide +kernel
theorem dL_law_504 : decode cL_law 504 = .ok (.aload_n 0, 1) := by decide +kernel
theorem dL_law_505 : decode cL_law 505 = .ok (.iload_n 3, 1) := by decide +kernel
theorem dL_law_506 : decode cL_law 506 = .ok (.iconst 1, 1) := by decide +kernel
theorem dL_law_507 : decode cL_law 507 = .ok (.iadd, 1) := by decide +kernel
theorem dL_law_508 : decode cL_law 508 = .ok (.iaload, 1) := by decide +kernel
theorem dL_law_509 : decode cL_law 509 = .ok (.invokevirtual 76, 3) := by decide +kernel
theorem dL_law_512 : decode cL_law 512 = .ok (.if_icmp .eq 415, 3) := by decide +kernel
theorem dL_law_515 : decode cL_law 515 = .ok (.iconst 0, 1) := by decide +kernel
theorem dL_law_516 : decode cL_law 516 = .ok (.ireturn, 1) := by decide +kernel
theorem dL_law_517 : decode cL_law 517 = .ok (.aload_n 1, 1) := by decide +kernel
theorem dL_law_518 : decode cL_law 518 = .ok (.aload_n 0, 1) := by decide +kernel
theorem dL_law_519 : decode cL_law 519 = .ok (.iload_n 3, 1) := by decide +kernel
theorem dL_law_520 : decode cL_law 520 = .ok (.iconst 1, 1) := by decide +kernel
theorem dL_law_521 : decode cL_law 521 = .ok (.iadd, 1) := by decide +kernel
theorem dL_law_522 : decode cL_law 522 = .ok (.iaload, 1) := by decide +kernel
theorem dL_law_523 : decode cL_law 523 = .ok (.aload_n 0, 1) := by decide +kernel
theorem dL_law_524 : decode cL_law 524 = .ok (.iload_n 3, 1) := by decide +kernel
theorem dL_law_525 : decode cL_law 525 = .ok (.iconst 2, 1) := by decide +kernel
theorem dL_law_526 : decode cL_law 526 = .ok (.iadd, 1) := by decide +kernel
theorem dL_law_527 : decode cL_law 527 = .ok (.iaload, 1) := by decide +kernel
theorem dL_law_528 : decode cL_law 528 = .ok (.invokevirtual 77, 3) := by decide +kernel
theorem dL_law_531 : decode cL_law 531 = .ok (.aload_n 2, 1) := by decide +kernel
theorem dL_law_532 : decode cL_law 532 = .ok (.aload_n 0, 1) := by decide +kernel
theorem dL_law_533 : decode cL_law 533 = .ok (.iload_n 3, 1) := by decide +kernel
theorem dL_law_534 : decode cL_law 534 = .ok (.iconst 1, 1) := by decide +kernel
theorem dL_law_535 : decode cL_law 535 = .ok (.iadd, 1) := by decide +kernel
theorem dL_law_536 : decode cL_law 536 = .ok (.iaload, 1) := by decide +kernel
theorem dL_law_537 : decode cL_law 537 = .ok (.aload_n 0, 1) := by decide +kernel
theorem dL_law_538 : decode cL_law 538 = .ok (.iload_n 3, 1) := by decide +kernel
theorem dL_law_539 : decode cL_law 539 = .ok (.iconst 2, 1) := by decide +kernel
theorem dL_law_540 : decode cL_law 540 = .ok (.iadd, 1) := by decide +kernel
theorem dL_law_541 : decode cL_law 541 = .ok (.iaload, 1) := by decide +kernel
theorem dL_law_542 : decode cL_law 542 = .ok (.invokevirtual 80, 3) := by decide +kernel
theorem dL_law_545 : decode cL_law 545 = .ok (.if_icmp .eq 382, 3) := by decide +kernel
theorem dL_law_548 : decode cL_law 548 = .ok (.iconst 0, 1) := by decide +kernel
theorem dL_law_549 : decode cL_law 549 = .ok (.ireturn, 1) := by decide +kernel
theorem dL_law_550 : decode cL_law 550 = .ok (.aload_n 1, 1) := by decide +kernel
theorem dL_law_551 : decode cL_law 551 = .ok (.aload_n 0, 1) := by decide +kernel
theorem dL_law_552 : decode cL_law 552 = .ok (.iload_n 3, 1) := by decide +kernel
theorem dL_law_553 : decode cL_law 553 = .ok (.iconst 1, 1) := by decide +kernel
theorem dL_law_554 : decode cL_law 554 = .ok (.iadd, 1) := by decide +kernel
theorem dL_law_555 : decode cL_law 555 = .ok (.iaload, 1) := by decide +kernel
theorem dL_law_556 : decode cL_law 556 = .ok (.aload_n 0, 1) := by decide +kernel
theorem dL_law_557 : decode cL_law 557 = .ok (.iload_n 3, 1) := by decide +kernel
theorem dL_law_558 : decode cL_law 558 = .ok (.iconst 2, 1) := by decide +kernel
theorem dL_law_559 : decode cL_law 559 = .ok (.iadd, 1) := by decide +kernel
theorem dL_law_560 : decode cL_law 560 = .ok (.iaload, 1) := by decide +kernel
theorem dL_law_561 : decode cL_law 561 = .ok (.invokevirtual 81, 3) := by decide +kernel
theorem dL_law_564 : decode cL_law 564 = .ok (.aload_n 2, 1) := by decide +kernel
theorem dL_law_565 : decode cL_law 565 = .ok (.aload_n 0, 1) := by decide +kernel
theorem dL_law_566 : decode cL_law 566 = .ok (.iload_n 3, 1) := by decide +kernel
theorem dL_law_567 : decode cL_law 567 = .ok (.iconst 1, 1) := by decide +kernel
theorem dL_law_568 : decode cL_law 568 = .ok (.iadd, 1) := by decide +kernel
theorem dL_law_569 : decode cL_law 569 = .ok (.iaload, 1) := by decide +kernel
theorem dL_law_570 : decode cL_law 570 = .ok (.aload_n 0, 1) := by decide +kernel
theorem dL_law_571 : decode cL_law 571 = .ok (.iload_n 3, 1) := by decide +kernel
theorem dL_law_572 : decode cL_law 572 = .ok (.iconst 2, 1) := by decide +kernel
theorem dL_law_573 : decode cL_law 573 = .ok (.iadd, 1) := by decide +kernel
theorem dL_law_574 : decode cL_law 574 = .ok (.iaload, 1) := by decide +kernel
theorem dL_law_575 : decode cL_law 575 = .ok (.invokevirtual 84, 3) := by decide +kernel
theorem dL_law_578 : decode cL_law 578 = .ok (.if_icmp .eq 349, 3) := by decide +kernel
theorem dL_law_581 : decode cL_law 581 = .ok (.iconst 0, 1) := by decide +kernel
theorem dL_law_582 : decode cL_law 582 = .ok (.ireturn, 1) := by decide +kernel
theorem dL_law_583 : decode cL_law 583 = .ok (.aload_n 1, 1) := by decide +kernel
theorem dL_law_584 : decode cL_law 584 = .ok (.invokevirtual 85, 3) := by decide +kernel
theorem dL_law_587 : decode cL_law 587 = .ok (.aload_n 2, 1) := by decide +kernel
theorem dL_law_588 : decode cL_law 588 = .ok (.invokevirtual 88, 3) := by decide +kernel
theorem dL_law_591 : decode cL_law 591 = .ok (.if_icmp .eq 336, 3) := by decide +kernel
theorem dL_law_594 : decode cL_law 594 = .ok (.iconst 0, 1) := by decide +kernel
theorem dL_law_595 : decode cL_law 595 = .ok (.ireturn, 1) := by decide +kernel
theorem dL_law_596 : decode cL_law 596 = .ok (.aload_n 1, 1) := by decide +kernel
theorem dL_law_597 : decode cL_law 597 = .ok (.aload_n 0, 1) := by decide +kernel
theorem dL_law_598 : decode cL_law 598 = .ok (.iload_n 3, 1) := by decide +kernel
theorem dL_law_599 : decode cL_law 599 = .ok (.iconst 1, 1) := by decide +kernel
theorem dL_law_600 : decode cL_law 600 = .ok (.iadd, 1) := by decide +kernel
theorem dL_law_601 : decode cL_law 601 = .ok (.iaload, 1) := by decide +kernel
theorem dL_law_602 : decode cL_law 602 = .ok (.invokevirtual 89, 3) := by decide +kernel
theorem dL_law_605 : decode cL_law 605 = .ok (.aload_n 2, 1) := by decide +kernel
theorem dL_law_606 : decode cL_law 606 = .ok (.aload_n 0, 1) := by decide +kernel
theorem dL_law_607 : decode cL_law 607 = .ok (.iload_n 3, 1) := by decide +kernel
theorem dL_law_608 : decode cL_law 608 = .ok (.iconst 1, 1) := by decide +kernel
theorem dL_law_609 : decode cL_law 609 = .ok (.iadd, 1) := by decide +kernel
theorem dL_law_610 : decode cL_law 610 = .ok (.iaload, 1) := by decide +kernel
theorem dL_law_611 : decode cL_law 611 = .ok (.invokevirtual 92, 3) := by decide +kernel
theorem dL_law_614 : decode cL_law 614 = .ok (.if_icmp .eq 313, 3) := by decide +kernel
theorem dL_law_617 : decode cL_law 617 = .ok (.iconst 0, 1) := by decide +kernel
theorem dL_law_618 : decode cL_law 618 = .ok (.ireturn, 1) := by decide +kernel
theorem dL_law_619 : decode cL_law 619 = .ok (.aload_n 1, 1) := by decide +kernel
theorem dL_law_620 : decode cL_law 620 = .ok (.aload_n 0, 1) := by decide +kernel
theorem dL_law_621 : decode cL_law 621 = .ok (.iload_n 3, 1) := by decide +kernel
theorem dL_law_622 : decode cL_law 622 = .ok (.iconst 1, 1) := by decide +kernel
theorem dL_law_623 : decode cL_law 623 = .ok (.iadd, 1) := by decide +kernel
theorem dL_law_624 : decode cL_law 624 = .ok (.iaload, 1) := by decide +kernel
theorem dL_law_625 : decode cL_law 625 = .ok (.invokevirtual 93, 3) := by decide +kernel
theorem dL_law_628 : decode cL_law 628 = .ok (.aload_n 2, 1) := by decide +kernel
theorem dL_law_629 : decode cL_law 629 = .ok (.aload_n 0, 1) := by decide +kernel
theorem dL_law_630 : decode cL_law 630 = .ok (.iload_n 3, 1) := by decide +kernel
theorem dL_law_631 : decode cL_law 631 = .ok (.iconst 1, 1) := by decide +kernel
theorem dL_law_632 : decode cL_law 632 = .ok (.iadd, 1) := by decide +kernel
theorem dL_law_633 : decode cL_law 633 = .ok (.iaload, 1) := by decide +kernel
theorem dL_law_634 : decode cL_law 634 = .ok (.invokevirtual 96, 3) := by decide +kernel
theorem dL_law_637 : decode cL_law 637 = .ok (.if_icmp .eq 290, 3) := by decide +kernel
theorem dL_law_640 : decode cL_law 640 = .ok (.iconst 0, 1) := by decide +kernel
theorem dL_law_641 : decode cL_law 641 = .ok (.ireturn, 1) := by decide +kernel
theorem dL_law_642 : decode cL_law 642 = .ok (.aload_n 1, 1) := by decide +kernel
theorem dL_law_643 : decode cL_law 643 = .ok (.aload_n 0, 1) := by decide +kernel
theorem dL_law_644 : decode cL_law 644 = .ok (.iload_n 3, 1) := by decide +kernel
theorem dL_law_645 : decode cL_law 645 = .ok (.iconst 1, 1) := by decide +kernel
theorem dL_law_646 : decode cL_law 646 = .ok (.iadd, 1) := by decide +kernel
theorem dL_law_647 : decode cL_law 647 = .ok (.iaload, 1) := by decide +kernel
theorem dL_law_648 : decode cL_law 648 = .ok (.invokevirtual 97, 3) := by decide +kernel
theorem dL_law_651 : decode cL_law 651 = .ok (.aload_n 2, 1) := by decide +kernel
theorem dL_law_652 : decode cL_law 652 = .ok (.aload_n 0, 1) := by decide +kernel
theorem dL_law_653 : decode cL_law 653 = .ok (.iload_n 3, 1) := by decide +kernel
theorem dL_law_654 : decode cL_law 654 = .ok (.iconst 1, 1) := by decide +kernel
theorem dL_law_655 : decode cL_law 655 = .ok (.iadd, 1) := by decide +kernel
theorem dL_law_656 : decode cL_law 656 = .ok (.iaload, 1) := by decide +kernel
theorem dL_law_657 : decode cL_law 657 = .ok (.invokevirtual 100, 3) := by decide +kernel
theorem dL_law_660 : decode cL_law 660 = .ok (.if_icmp .eq 267, 3) := by decide +kernel
theorem dL_law_663 : decode cL_law 663 = .ok (.iconst 0, 1) := by decide +kernel
theorem dL_law_664 : decode cL_law 664 = .ok (.ireturn, 1) := by decide +kernel
theorem dL_law_665 : decode cL_law 665 = .ok (.aload_n 1, 1) := by decide +kernel
theorem dL_law_666 : decode cL_law 666 = .ok (.aload_n 0, 1) := by decide +kernel
theorem dL_law_667 : decode cL_law 667 = .ok (.iload_n 3, 1) := by decide +kernel
theorem dL_law_668 : decode cL_law 668 = .ok (.iconst 1, 1) := by decide +kernel
theorem dL_law_669 : decode cL_law 669 = .ok (.iadd, 1) := by decide +kernel
theorem dL_law_670 : decode cL_law 670 = .ok (.iaload, 1) := by decide +kernel
theorem dL_law_671 : decode cL_law 671 = .ok (.invokevirtual 101, 3) := by decide +kernel
theorem dL_law_674 : decode cL_law 674 = .ok (.aload_n 2, 1) := by decide +kernel
theorem dL_law_675 : decode cL_law 675 = .ok (.aload_n 0, 1) := by decide +kernel
theorem dL_law_676 : decode cL_law 676 = .ok (.iload_n 3, 1) := by decide +kernel
theorem dL_law_677 : decode cL_law 677 = .ok (.iconst 1, 1) := by decide +kernel
theorem dL_law_678 : decode cL_law 678 = .ok (.iadd, 1) := by decide +kernel
theorem dL_law_679 : decode cL_law 679 = .ok (.iaload, 1) := by decide +kernel
theorem dL_law_680 : decode cL_law 680 = .ok (.invokevirtual 104, 3) := by decide +kernel
theorem dL_law_683 : decode cL_law 683 = .ok (.if_icmp .eq 244, 3) := by decide +kernel
theorem dL_law_686 : decode cL_law 686 = .ok (.iconst 0, 1) := by decide +kernel
theorem dL_law_687 : decode cL_law 687 = .ok (.ireturn, 1) := by decide +kernel
theorem dL_law_688 : decode cL_law 688 = .ok (.aload_n 1, 1) := by decide +kernel
theorem dL_law_689 : decode cL_law 689 = .ok (.aload_n 0, 1) := by decide +kernel
theorem dL_law_690 : decode cL_law 690 = .ok (.iload_n 3, 1) := by decide +kernel
theorem dL_law_691 : decode cL_law 691 = .ok (.iconst 1, 1) := by decide +kernel
theorem dL_law_692 : decode cL_law 692 = .ok (.iadd, 1) := by decide +kernel
theorem dL_law_693 : decode cL_law 693 = .ok (.iaload, 1) := by decide +kernel
theorem dL_law_694 : decode cL_law 694 = .ok (.aload_n 0, 1) := by decide +kernel
theorem dL_law_695 : decode cL_law 695 = .ok (.iload_n 3, 1) := by decide +kernel
theorem dL_law_696 : decode cL_law 696 = .ok (.iconst 2, 1) := by decide +kernel
theorem dL_law_697 : decode cL_law 697 = .ok (.iadd, 1) := by decide +kernel
theorem dL_law_698 : decode cL_law 698 = .ok (.iaload, 1) := by decide +kernel
theorem dL_law_699 : decode cL_law 699 = .ok (.aload_n 0, 1) := by decide +kernel
theorem dL_law_700 : decode cL_law 700 = .ok (.iload_n 3, 1) := by decide +kernel
theorem dL_law_701 : decode cL_law 701 = .ok (.iconst 3, 1) := by decide +kernel
theorem dL_law_702 : decode cL_law 702 = .ok (.iadd, 1) := by decide +kernel
theorem dL_law_703 : decode cL_law 703 = .ok (.iaload, 1) := by decide +kernel
theorem dL_law_704 : decode cL_law 704 = .ok (.invokevirtual 105, 3) := by decide +kernel
theorem dL_law_707 : decode cL_law 707 = .ok (.aload_n 2, 1) := by decide +kernel
theorem dL_law_708 : decode cL_law 708 = .ok (.aload_n 0, 1) := by decide +kernel
theorem dL_law_709 : decode cL_law 709 = .ok (.iload_n 3, 1) := by decide +kernel
theorem dL_law_710 : decode cL_law 710 = .ok (.iconst 1, 1) := by decide +kernel
theorem dL_law_711 : decode cL_law 711 = .ok (.iadd, 1) := by decide +kernel
theorem dL_law_712 : decode cL_law 712 = .ok (.iaload, 1) := by decide +kernel
theorem dL_law_713 : decode cL_law 713 = .ok (.aload_n 0, 1) := by decide +kernel
theorem dL_law_714 : decode cL_law 714 = .ok (.iload_n 3, 1) := by decide +kernel
theorem dL_law_715 : decode cL_law 715 = .ok (.iconst 2, 1) := by decide +kernel
theorem dL_law_716 : decode cL_law 716 = .ok (.iadd, 1) := by decide +kernel
theorem dL_law_717 : decode cL_law 717 = .ok (.iaload, 1) := by decide +kernel
theorem dL_law_718 : decode cL_law 718 = .ok (.aload_n 0, 1) := by decide +kernel
theorem dL_law_719 : decode cL_law 719 = .ok (.iload_n 3, 1) := by decide +kernel
theorem dL_law_720 : decode cL_law 720 = .ok (.iconst 3, 1) := by decide +kernel
theorem dL_law_721 : decode cL_law 721 = .ok (.iadd, 1) := by decide +kernel
theorem dL_law_722 : decode cL_law 722 = .ok (.iaload, 1) := by decide +kernel
theorem dL_law_723 : decode cL_law 723 = .ok (.invokevirtual 108, 3) := by decide +kernel
theorem dL_law_726 : decode cL_law 726 = .ok (.if_icmp .eq 201, 3) := by decide +kernel
theorem dL_law_729 : decode cL_law 729 = .ok (.iconst 0, 1) := by decide +kernel
theorem dL_law_730 : decode cL_law 730 = .ok (.ireturn, 1) := by decide +kernel
theorem dL_law_731 : decode cL_law 731 = .ok (.aload_n 1, 1) := by decide +kernel
theorem dL_law_732 : decode cL_law 732 = .ok (.aload_n 0, 1) := by decide +kernel
theorem dL_law_733 : decode cL_law 733 = .ok (.iload_n 3, 1) := by decide +kernel
theorem dL_law_734 : decode cL_law 734 = .ok (.iconst 1, 1) := by decide +kernel
theorem dL_law_735 : decode cL_law 735 = .ok (.iadd, 1) := by decide +kernel
theorem dL_law_736 : decode cL_law 736 = .ok (.iaload, 1) := by decide +kernel
theorem dL_law_737 : decode cL_law 737 = .ok (.aload_n 0, 1) := by decide +kernel
theorem dL_law_738 : decode cL_law 738 = .ok (.iload_n 3, 1) := by decide +kernel
theorem dL_law_739 : decode cL_law 739 = .ok (.iconst 2, 1) := by decide +kernel
theorem dL_law_740 : decode cL_law 740 = .ok (.iadd, 1) := by decide +kernel
theorem dL_law_741 : decode cL_law 741 = .ok (.iaload, 1) := by decide +kernel
theorem dL_law_742 : decode cL_law 742 = .ok (.invokevirtual 109, 3) := by decide +kernel
theorem dL_law_745 : decode cL_law 745 = .ok (.aload_n 2, 1) := by decide +kernel
theorem dL_law_746 : decode cL_law 746 = .ok (.aload_n 0, 1) := by decide +kernel
theorem dL_law_747 : decode cL_law 747 = .ok (.iload_n 3, 1) := by decide +kernel
theorem dL_law_748 : decode cL_law 748 = .ok (.iconst 1, 1) := by decide +kernel
theorem dL_law_749 : decode cL_law 749 = .ok (.iadd, 1) := by decide +kernel
theorem dL_law_750 : decode cL_law 750 = .ok (.iaload, 1) := by decide +kernel
theorem dL_law_751 : decode cL_law 751 = .ok (.aload_n 0, 1) := by decide +kernel
theorem dL_law_752 : decode cL_law 752 = .ok (.iload_n 3, 1) := by decide +kernel
theorem dL_law_753 : decode cL_law 753 = .ok (.iconst 2, 1) := by decide +kernel
theorem dL_law_754 : decode cL_law 754 = .ok (.iadd, 1) := by decide +kernel
theorem dL_law_755 : decode cL_law 755 = .ok (.iaload, 1) := by decide +kernel
theorem dL_law_756 : decode cL_law 756 = .ok (.invokevirtual 112, 3) := by decide +kernel
theorem dL_law_759 : decode cL_law 759 = .ok (.if_icmp .eq 168, 3) := by decide +kernel
theorem dL_law_762 : decode cL_law 762 = .ok (.iconst 0, 1) := by decide +kernel
theorem dL_law_763 : decode cL_law 763 = .ok (.ireturn, 1) := by decide +kernel
theorem dL_law_764 : decode cL_law 764 = .ok (.aload_n 1, 1) := by decide +kernel
theorem dL_law_765 : decode cL_law 765 = .ok (.aload_n 0, 1) := by decide +kernel
theorem dL_law_766 : decode cL_law 766 = .ok (.iload_n 3, 1) := by decide +kernel
theorem dL_law_767 : decode cL_law 767 = .ok (.iconst 1, 1) := by decide +kernel
theorem dL_law_768 : decode cL_law 768 = .ok (.iadd, 1) := by decide +kernel
theorem dL_law_769 : decode cL_law 769 = .ok (.iaload, 1) := by decide +kernel
theorem dL_law_770 : decode cL_law 770 = .ok (.aload_n 0, 1) := by decide +kernel
theorem dL_law_771 : decode cL_law 771 = .ok (.iload_n 3, 1) := by decide +kernel
theorem dL_law_772 : decode cL_law 772 = .ok (.iconst 2, 1) := by decide +kernel
theorem dL_law_773 : decode cL_law 773 = .ok (.iadd, 1) := by decide +kernel
theorem dL_law_774 : decode cL_law 774 = .ok (.iaload, 1) := by decide +kernel
theorem dL_law_775 : decode cL_law 775 = .ok (.invokevirtual 113, 3) := by decide +kernel
theorem dL_law_778 : decode cL_law 778 = .ok (.aload_n 2, 1) := by decide +kernel
theorem dL_law_779 : decode cL_law 779 = .ok (.aload_n 0, 1) := by decide +kernel
theorem dL_law_780 : decode cL_law 780 = .ok (.iload_n 3, 1) := by decide +kernel
theorem dL_law_781 : decode cL_law 781 = .ok (.iconst 1, 1) := by decide +kernel
theorem dL_law_782 : decode cL_law 782 = .ok (.iadd, 1) := by decide +kernel
theorem dL_law_783 : decode cL_law 783 = .ok (.iaload, 1) := by decide +kernel
theorem dL_law_784 : decode cL_law 784 = .ok (.aload_n 0, 1) := by decide +kernel
theorem dL_law_785 : decode cL_law 785 = .ok (.iload_n 3, 1) := by decide +kernel
theorem dL_law_786 : decode cL_law 786 = .ok (.iconst 2, 1) := by decide +kernel
theorem dL_law_787 : decode cL_law 787 = .ok (.iadd, 1) := by decide +kernel
theorem dL_law_788 : decode cL_law 788 = .ok (.iaload, 1) := by decide +kernel
theorem dL_law_789 : decode cL_law 789 = .ok (.invokevirtual 116, 3) := by decide +kernel
theorem dL_law_792 : decode cL_law 792 = .ok (.if_icmp .eq 135, 3) := by decide +kernel
theorem dL_law_795 : decode cL_law 795 = .ok (.iconst 0, 1) := by decide +kernel
theorem dL_law_796 : decode cL_law 796 = .ok (.ireturn, 1) := by decide +kernel
theorem dL_law_797 : decode cL_law 797 = .ok (.aload_n 1, 1) := by decide +kernel
theorem dL_law_798 : decode cL_law 798 = .ok (.aload_n 0, 1) := by decide +kernel
theorem dL_law_799 : decode cL_law 799 = .ok (.iload_n 3, 1) := by decide +kernel
theorem dL_law_800 : decode cL_law 800 = .ok (.iconst 1, 1) := by decide +kernel
theorem dL_law_801 : decode cL_law 801 = .ok (.iadd, 1) := by decide +kernel
theorem dL_law_802 : decode cL_law 802 = .ok (.iaload, 1) := by decide +kernel
theorem dL_law_803 : decode cL_law 803 = .ok (.invokevirtual 117, 3) := by decide +kernel
theorem dL_law_806 : decode cL_law 806 = .ok (.aload_n 2, 1) := by decide +kernel
theorem dL_law_807 : decode cL_law 807 = .ok (.aload_n 0, 1) := by decide +kernel
theorem dL_law_808 : decode cL_law 808 = .ok (.iload_n 3, 1) := by decide +kernel
theorem dL_law_809 : decode cL_law 809 = .ok (.iconst 1, 1) := by decide +kernel
theorem dL_law_810 : decode cL_law 810 = .ok (.iadd, 1) := by decide +kernel
theorem dL_law_811 : decode cL_law 811 = .ok (.iaload, 1) := by decide +kernel
theorem dL_law_812 : decode cL_law 812 = .ok (.invokevirtual 121, 3) := by decide +kernel
theorem dL_law_815 : decode cL_law 815 = .ok (.lcmp, 1) := by decide +kernel
theorem dL_law_816 : decode cL_law 816 = .ok (.ifCond .eq 111, 3) := by decide +kernel
theorem dL_law_819 : decode cL_law 819 = .ok (.iconst 0, 1) := by decide +kernel
theorem dL_law_820 : decode cL_law 820 = .ok (.ireturn, 1) := by decide +kernel
theorem dL_law_821 : decode cL_law 821 = .ok (.aload_n 1, 1) := by decide +kernel
theorem dL_law_822 : decode cL_law 822 = .ok (.aload_n 0, 1) := by decide +kernel
theorem dL_law_823 : decode cL_law 823 = .ok (.iload_n 3, 1) := by decide +kernel
theorem dL_law_824 : decode cL_law 824 = .ok (.iconst 1, 1) := by decide +kernel
theorem dL_law_825 : decode cL_law 825 = .ok (.iadd, 1) := by decide +kernel
theorem dL_law_826 : decode cL_law 826 = .ok (.iaload, 1) := by decide +kernel
theorem dL_law_827 : decode cL_law 827 = .ok (.invokevirtual 122, 3) := by decide +kernel
theorem dL_law_830 : decode cL_law 830 = .ok (.aload_n 2, 1) := by decide +kernel
theorem dL_law_831 : decode cL_law 831 = .ok (.aload_n 0, 1) := by decide +kernel
theorem dL_law_832 : decode cL_law 832 = .ok (.iload_n 3, 1) := by decide +kernel
theorem dL_law_833 : decode cL_law 833 = .ok (.iconst 1, 1) := by decide +kernel
theorem dL_law_834 : decode cL_law 834 = .ok (.iadd, 1) := by decide +kernel
theorem dL_law_835 : decode cL_law 835 = .ok (.iaload, 1) := by decide +kernel
theorem dL_law_836 : decode cL_law 836 = .ok (.invokevirtual 125, 3) := by decide +kernel
theorem dL_law_839 : decode cL_law 839 = .ok (.if_icmp .eq 88, 3) := by decide +kernel
theorem dL_law_842 : decode cL_law 842 = .ok (.iconst 0, 1) := by decide +kernel
theorem dL_law_843 : decode cL_law 843 = .ok (.ireturn, 1) := by decide +kernel
theorem dL_law_844 : decode cL_law 844 = .ok (.aload_n 1, 1) := by decide +kernel
theorem dL_law_845 : decode cL_law 845 = .ok (.aload_n 0, 1) := by decide +kernel
theorem dL_law_846 : decode cL_law 846 = .ok (.iload_n 3, 1) := by decide +kernel
theorem dL_law_847 : decode cL_law 847 = .ok (.iconst 1, 1) := by decide +kernel
theorem dL_law_848 : decode cL_law 848 = .ok (.iadd, 1) := by decide +kernel
theorem dL_law_849 : decode cL_law 849 = .ok (.iaload, 1) := by decide +kernel
theorem dL_law_850 : decode cL_law 850 = .ok (.invokevirtual 126, 3) := by decide +kernel
theorem dL_law_853 : decode cL_law 853 = .ok (.aload_n 2, 1) := by decide +kernel
theorem dL_law_854 : decode cL_law 854 = .ok (.aload_n 0, 1) := by decide +kernel
theorem dL_law_855 : decode cL_law 855 = .ok (.iload_n 3, 1) := by decide +kernel
theorem dL_law_856 : decode cL_law 856 = .ok (.iconst 1, 1) := by decide +kernel
theorem dL_law_857 : decode cL_law 857 = .ok (.iadd, 1) := by decide +kernel
theorem dL_law_858 : decode cL_law 858 = .ok (.iaload, 1) := by decide +kernel
theorem dL_law_859 : decode cL_law 859 = .ok (.invokevirtual 129, 3) := by decide +kernel
theorem dL_law_862 : decode cL_law 862 = .ok (.if_icmp .eq 65, 3) := by decide +kernel
theorem dL_law_865 : decode cL_law 865 = .ok (.iconst 0, 1) := by decide +kernel
theorem dL_law_866 : decode cL_law 866 = .ok (.ireturn, 1) := by decide +kernel
theorem dL_law_867 : decode cL_law 867 = .ok (.aload_n 1, 1) := by decide +kernel
theorem dL_law_868 : decode cL_law 868 = .ok (.aload_n 0, 1) := by decide +kernel
theorem dL_law_869 : decode cL_law 869 = .ok (.iload_n 3, 1) := by decide +kernel
theorem dL_law_870 : decode cL_law 870 = .ok (.iconst 1, 1) := by decide +kernel
theorem dL_law_871 : decode cL_law 871 = .ok (.iadd, 1) := by decide +kernel
theorem dL_law_872 : decode cL_law 872 = .ok (.iaload, 1) := by decide +kernel
theorem dL_law_873 : decode cL_law 873 = .ok (.invokevirtual 130, 3) := by decide +kernel
theorem dL_law_876 : decode cL_law 876 = .ok (.aload_n 2, 1) := by decide +kernel
theorem dL_law_877 : decode cL_law 877 = .ok (.aload_n 0, 1) := by decide +kernel
theorem dL_law_878 : decode cL_law 878 = .ok (.iload_n 3, 1) := by decide +kernel
theorem dL_law_879 : decode cL_law 879 = .ok (.iconst 1, 1) := by decide +kernel
theorem dL_law_880 : decode cL_law 880 = .ok (.iadd, 1) := by decide +kernel
theorem dL_law_881 : decode cL_law 881 = .ok (.iaload, 1) := by decide +kernel
theorem dL_law_882 : decode cL_law 882 = .ok (.invokevirtual 133, 3) := by decide +kernel
theorem dL_law_885 : decode cL_law 885 = .ok (.if_icmp .eq 42, 3) := by decide +kernel
theorem dL_law_888 : decode cL_law 888 = .ok (.iconst 0, 1) := by decide +kernel
theorem dL_law_889 : decode cL_law 889 = .ok (.ireturn, 1) := by decide +kernel
theorem dL_law_890 : decode cL_law 890 = .ok (.aload_n 1, 1) := by decide +kernel
theorem dL_law_891 : decode cL_law 891 = .ok (.aload_n 0, 1) := by decide +kernel
theorem dL_law_892 : decode cL_law 892 = .ok (.iload_n 3, 1) := by decide +kernel
theorem dL_law_893 : decode cL_law 893 = .ok (.iconst 1, 1) := by decide +kernel
theorem dL_law_894 : decode cL_law 894 = .ok (.iadd, 1) := by decide +kernel
theorem dL_law_895 : decode cL_law 895 = .ok (.iaload, 1) := by decide +kernel
theorem dL_law_896 : decode cL_law 896 = .ok (.invokevirtual 134, 3) := by decide +kernel
theorem dL_law_899 : decode cL_law 899 = .ok (.aload_n 2, 1) := by decide +kernel
theorem dL_law_900 : decode cL_law 900 = .ok (.aload_n 0, 1) := by decide +kernel
theorem dL_law_901 : decode cL_law 901 = .ok (.iload_n 3, 1) := by decide +kernel
theorem dL_law_902 : decode cL_law 902 = .ok (.iconst 1, 1) := by decide +kernel
theorem dL_law_903 : decode cL_law 903 = .ok (.iadd, 1) := by decide +kernel
theorem dL_law_904 : decode cL_law 904 = .ok (.iaload, 1) := by decide +kernel
theorem dL_law_905 : decode cL_law 905 = .ok (.invokevirtual 137, 3) := by decide +kernel
theorem dL_law_908 : decode cL_law 908 = .ok (.if_icmp .eq 19, 3) := by decide +kernel
theorem dL_law_911 : decode cL_law 911 = .ok (.iconst 0, 1) := by decide +kernel
theorem dL_law_912 : decode cL_law 912 = .ok (.ireturn, 1) := by decide +kernel
theorem dL_law_913 : decode cL_law 913 = .ok (.aload_n 1, 1) := by decide +kernel
theorem dL_law_914 : decode cL_law 914 = .ok (.invokevirtual 138, 3) := by decide +kernel
theorem dL_law_917 : decode cL_law 917 = .ok (.aload_n 2, 1) := by decide +kernel
theorem dL_law_918 : decode cL_law 918 = .ok (.invokevirtual 142, 3) := by decide +kernel
theorem dL_law_921 : decode cL_law 921 = .ok (.lcmp, 1) := by decide +kernel
theorem dL_law_922 : decode cL_law 922 = .ok (.ifCond .eq 5, 3) := by decide +kernel
theorem dL_law_925 : decode cL_law 925 = .ok (.iconst 0, 1) := by decide +kernel
theorem dL_law_926 : decode cL_law 926 = .ok (.ireturn, 1) := by decide +kernel
theorem dL_law_927 : decode cL_law 927 = .ok (.iinc 3 4, 3) := by decide +kernel
theorem dL_law_930 : decode cL_law 930 = .ok (.goto (-912), 3) := by decide +kernel
theorem dL_law_933 : decode cL_law 933 = .ok (.iconst 1, 1) := by decide +kernel
theorem dL_law_934 : decode cL_law 934 = .ok (.ireturn, 1) := by decide +kernel
