theorem dX5_init_0 : decode cX5_init 0 = .ok (.aload_n 0, 1) := by decide +kernel
theorem dX5_init_1 : decode cX5_init 1 = .ok (.invokespecial 1, 3) := by decide +kernel
theorem dX5_init_4 : decode cX5_init 4 = .ok (.aload_n 0, 1) := by decide +kernel
theorem dX5_init_5 : decode cX5_init 5 = .ok (.bipush 64, 2) := by decide +kernel
theorem dX5_init_7 : decode cX5_init 7 = .ok (.newarray .int, 2) := by decide +kernel
theorem dX5_init_9 : decode cX5_init 9 = .ok (.putfield 7, 3) := by decide +kernel
theorem dX5_init_12 : decode cX5_init 12 = .ok (.aload_n 0, 1) := by decide +kernel
theorem dX5_init_13 : decode cX5_init 13 = .ok (.bipush 100, 2) := by decide +kernel
theorem dX5_init_15 : decode cX5_init 15 = .ok (.newarray .int, 2) := by decide +kernel
theorem dX5_init_17 : decode cX5_init 17 = .ok (.putfield 13, 3) := by decide +kernel
theorem dX5_init_20 : decode cX5_init 20 = .ok (.aload_n 0, 1) := by decide +kernel
theorem dX5_init_21 : decode cX5_init 21 = .ok (.bipush 100, 2) := by decide +kernel
theorem dX5_init_23 : decode cX5_init 23 = .ok (.newarray .int, 2) := by decide +kernel
theorem dX5_init_25 : decode cX5_init 25 = .ok (.putfield 16, 3) := by decide +kernel
theorem dX5_init_28 : decode cX5_init 28 = .ok (.aload_n 0, 1) := by decide +kernel
theorem dX5_init_29 : decode cX5_init 29 = .ok (.bipush 100, 2) := by decide +kernel
theorem dX5_init_31 : decode cX5_init 31 = .ok (.newarray .int, 2) := by decide +kernel
theorem dX5_init_33 : decode cX5_init 33 = .ok (.putfield 19, 3) := by decide +kernel
theorem dX5_init_36 : decode cX5_init 36 = .ok (.aload_n 0, 1) := by decide +kernel
theorem dX5_init_37 : decode cX5_init 37 = .ok (.sipush 400, 3) := by decide +kernel
theorem dX5_init_40 : decode cX5_init 40 = .ok (.newarray .int, 2) := by decide +kernel
theorem dX5_init_42 : decode cX5_init 42 = .ok (.putfield 22, 3) := by decide +kernel
theorem dX5_init_45 : decode cX5_init 45 = .ok (.aload_n 0, 1) := by decide +kernel
theorem dX5_init_46 : decode cX5_init 46 = .ok (.bipush 8, 2) := by decide +kernel
theorem dX5_init_48 : decode cX5_init 48 = .ok (.newarray .int, 2) := by decide +kernel
theorem dX5_init_50 : decode cX5_init 50 = .ok (.putfield 25, 3) := by decide +kernel
theorem dX5_init_53 : decode cX5_init 53 = .ok (.aload_n 0, 1) := by decide +kernel
theorem dX5_init_54 : decode cX5_init 54 = .ok (.bipush 8, 2) := by decide +kernel
theorem dX5_init_56 : decode cX5_init 56 = .ok (.newarray .int, 2) := by decide +kernel
theorem dX5_init_58 : decode cX5_init 58 = .ok (.putfield 28, 3) := by decide +kernel
theorem dX5_init_61 : decode cX5_init 61 = .ok (.aload_n 0, 1) := by decide +kernel
theorem dX5_init_62 : decode cX5_init 62 = .ok (.iconst 4, 1) := by decide +kernel
theorem dX5_init_63 : decode cX5_init 63 = .ok (.newarray .int, 2) := by decide +kernel
theorem dX5_init_65 : decode cX5_init 65 = .ok (.putfield 31, 3) := by decide +kernel
theorem dX5_init_68 : decode cX5_init 68 = .ok (.aload_n 0, 1) := by decide +kernel
theorem dX5_init_69 : decode cX5_init 69 = .ok (.bipush 16, 2) := by decide +kernel
theorem dX5_init_71 : decode cX5_init 71 = .ok (.newarray .int, 2) := by decide +kernel
theorem dX5_init_73 : decode cX5_init 73 = .ok (.putfield 34, 3) := by decide +kernel
theorem dX5_init_76 : decode cX5_init 76 = .ok (.aload_n 0, 1) := by decide +kernel
theorem dX5_init_77 : decode cX5_init 77 = .ok (.bipush 16, 2) := by decide +kernel
theorem dX5_init_79 : decode cX5_init 79 = .ok (.newarray .int, 2) := by decide +kernel
theorem dX5_init_81 : decode cX5_init 81 = .ok (.putfield 37, 3) := by decide +kernel
theorem dX5_init_84 : decode cX5_init 84 = .ok (.aload_n 0, 1) := by decide +kernel
theorem dX5_init_85 : decode cX5_init 85 = .ok (.bipush 16, 2) := by decide +kernel
theorem dX5_init_87 : decode cX5_init 87 = .ok (.newarray .int, 2) := by decide +kernel
theorem dX5_init_89 : decode cX5_init 89 = .ok (.putfield 40, 3) := by decide +kernel
theorem dX5_init_92 : decode cX5_init 92 = .ok (.aload_n 0, 1) := by decide +kernel
theorem dX5_init_93 : decode cX5_init 93 = .ok (.sipush 128, 3) := by decide +kernel
theorem dX5_init_96 : decode cX5_init 96 = .ok (.newarray .int, 2) := by decide +kernel
theorem dX5_init_98 : decode cX5_init 98 = .ok (.putfield 43, 3) := by decide +kernel
theorem dX5_init_101 : decode cX5_init 101 = .ok (.aload_n 0, 1) := by decide +kernel
theorem dX5_init_102 : decode cX5_init 102 = .ok (.sipush 128, 3) := by decide +kernel
theorem dX5_init_105 : decode cX5_init 105 = .ok (.newarray .int, 2) := by decide +kernel
theorem dX5_init_107 : decode cX5_init 107 = .ok (.putfield 46, 3) := by decide +kernel
theorem dX5_init_110 : decode cX5_init 110 = .ok (.aload_n 0, 1) := by decide +kernel
theorem dX5_init_111 : decode cX5_init 111 = .ok (.sipush 2048, 3) := by decide +kernel
theorem dX5_init_114 : decode cX5_init 114 = .ok (.newarray .int, 2) := by decide +kernel
theorem dX5_init_116 : decode cX5_init 116 = .ok (.putfield 49, 3) := by decide +kernel
theorem dX5_init_119 : decode cX5_init 119 = .ok (.aload_n 0, 1) := by decide +kernel
theorem dX5_init_120 : decode cX5_init 120 = .ok (.bipush 16, 2) := by decide +kernel
theorem dX5_init_122 : decode cX5_init 122 = .ok (.newarray .int, 2) := by decide +kernel
theorem dX5_init_124 : decode cX5_init 124 = .ok (.putfield 52, 3) := by decide +kernel
theorem dX5_init_127 : decode cX5_init 127 = .ok (.aload_n 0, 1) := by decide +kernel
theorem dX5_init_128 : decode cX5_init 128 = .ok (.bipush 16, 2) := by decide +kernel
theorem dX5_init_130 : decode cX5_init 130 = .ok (.newarray .boolean, 2) := by decide +kernel
theorem dX5_init_132 : decode cX5_init 132 = .ok (.putfield 55, 3) := by decide +kernel
theorem dX5_init_135 : decode cX5_init 135 = .ok (.aload_n 0, 1) := by decide +kernel
theorem dX5_init_136 : decode cX5_init 136 = .ok (.bipush 8, 2) := by decide +kernel
theorem dX5_init_138 : decode cX5_init 138 = .ok (.newarray .boolean, 2) := by decide +kernel
theorem dX5_init_140 : decode cX5_init 140 = .ok (.putfield 59, 3) := by decide +kernel
theorem dX5_init_143 : decode cX5_init 143 = .ok (.iconst 0, 1) := by decide +kernel
theorem dX5_init_144 : decode cX5_init 144 = .ok (.istore_n 1, 1) := by decide +kernel
theorem dX5_init_145 : decode cX5_init 145 = .ok (.iload_n 1, 1) := by decide +kernel
theorem dX5_init_146 : decode cX5_init 146 = .ok (.bipush 8, 2) := by decide +kernel
theorem dX5_init_148 : decode cX5_init 148 = .ok (.if_icmp .ge 23, 3) := by decide +kernel
theorem dX5_init_151 : decode cX5_init 151 = .ok (.aload_n 0, 1) := by decide +kernel
theorem dX5_init_152 : decode cX5_init 152 = .ok (.getfield 25, 3) := by decide +kernel
theorem dX5_init_155 : decode cX5_init 155 = .ok (.iload_n 1, 1) := by decide +kernel
theorem dX5_init_156 : decode cX5_init 156 = .ok (.iconst (-1), 1) := by decide +kernel
theorem dX5_init_157 : decode cX5_init 157 = .ok (.iastore, 1) := by decide +kernel
theorem dX5_init_158 : decode cX5_init 158 = .ok (.aload_n 0, 1) := by decide +kernel
theorem dX5_init_159 : decode cX5_init 159 = .ok (.getfield 28, 3) := by decide +kernel
theorem dX5_init_162 : decode cX5_init 162 = .ok (.iload_n 1, 1) := by decide +kernel
theorem dX5_init_163 : decode cX5_init 163 = .ok (.iconst (-1), 1) := by decide +kernel
theorem dX5_init_164 : decode cX5_init 164 = .ok (.iastore, 1) := by decide +kernel
theorem dX5_init_165 : decode cX5_init 165 = .ok (.iinc 1 1, 3) := by decide +kernel
theorem dX5_init_168 : decode cX5_init 168 = .ok (.goto (-23), 3) := by decide +kernel
theorem dX5_init_171 : decode cX5_init 171 = .ok (.aload_n 0, 1) := by decide +kernel
theorem dX5_init_172 : decode cX5_init 172 = .ok (.iconst 1, 1) := by decide +kernel
theorem dX5_init_173 : decode cX5_init 173 = .ok (.iconst 0, 1) := by decide +kernel
theorem dX5_init_174 : decode cX5_init 174 = .ok (.invokevirtual 62, 3) := by decide +kernel
theorem dX5_init_177 : decode cX5_init 177 = .ok (.return_, 1) := by decide +kernel
theorem dX5_thrown_0 : decode cX5_thrown 0 = .ok (.aload_n 0, 1) := by decide +kernel
theorem dX5_thrown_1 : decode cX5_thrown 1 = .ok (.getfield 66, 3) := by decide +kernel
theorem dX5_thrown_4 : decode cX5_thrown 4 = .ok (.ireturn, 1) := by decide +kernel
theorem dX5_in_0 : decode cX5_in 0 = .ok (.iload_n 0, 1) := by decide +kernel
theorem dX5_in_1 : decode cX5_in 1 = .ok (.iload_n 1, 1) := by decide +kernel
theorem dX5_in_2 : decode cX5_in 2 = .ok (.if_icmp .lt 12, 3) := by decide +kernel
theorem dX5_in_5 : decode cX5_in 5 = .ok (.iload_n 0, 1) := by decide +kernel
theorem dX5_in_6 : decode cX5_in 6 = .ok (.iload_n 2, 1) := by decide +kernel
theorem dX5_in_7 : decode cX5_in 7 = .ok (.if_icmp .gt 7, 3) := by decide +kernel
theorem dX5_in_10 : decode cX5_in 10 = .ok (.iconst 1, 1) := by decide +kernel
theorem dX5_in_11 : decode cX5_in 11 = .ok (.goto 4, 3) := by decide +kernel
theorem dX5_in_14 : decode cX5_in 14 = .ok (.iconst 0, 1) := by decide +kernel
theorem dX5_in_15 : decode cX5_in 15 = .ok (.ireturn, 1) := by decide +kernel
theorem dX5_goes_0 : decode cX5_goes 0 = .ok (.aload_n 0, 1) := by decide +kernel
theorem dX5_goes_1 : decode cX5_goes 1 = .ok (.iload_n 1, 1) := by decide +kernel
theorem dX5_goes_2 : decode cX5_goes 2 = .ok (.ifCond .ne 7, 3) := by decide +kernel
theorem dX5_goes_5 : decode cX5_goes 5 = .ok (.iconst 1, 1) := by decide +kernel
theorem dX5_goes_6 : decode cX5_goes 6 = .ok (.goto 20, 3) := by decide +kernel
theorem dX5_goes_9 : decode cX5_goes 9 = .ok (.iload_n 2, 1) := by decide +kernel
theorem dX5_goes_10 : decode cX5_goes 10 = .ok (.ifCond .ne 7, 3) := by decide +kernel
theorem dX5_goes_13 : decode cX5_goes 13 = .ok (.iconst 2, 1) := by decide +kernel
theorem dX5_goes_14 : decode cX5_goes 14 = .ok (.goto 12, 3) := by decide +kernel
theorem dX5_goes_17 : decode cX5_goes 17 = .ok (.iload_n 3, 1) := by decide +kernel
theorem dX5_goes_18 : decode cX5_goes 18 = .ok (.ifCond .ne 7, 3) := by decide +kernel
theorem dX5_goes_21 : decode cX5_goes 21 = .ok (.iconst 3, 1) := by decide +kernel
theorem dX5_goes_22 : decode cX5_goes 22 = .ok (.goto 4, 3) := by decide +kernel
theorem dX5_goes_25 : decode cX5_goes 25 = .ok (.iconst 0, 1) := by decide +kernel
theorem dX5_goes_26 : decode cX5_goes 26 = .ok (.putfield 66, 3) := by decide +kernel
theorem dX5_goes_29 : decode cX5_goes 29 = .ok (.aload_n 0, 1) := by decide +kernel
theorem dX5_goes_30 : decode cX5_goes 30 = .ok (.getfield 66, 3) := by decide +kernel
theorem dX5_goes_33 : decode cX5_goes 33 = .ok (.ifCond .ne 7, 3) := by decide +kernel
theorem dX5_goes_36 : decode cX5_goes 36 = .ok (.iconst 1, 1) := by decide +kernel
theorem dX5_goes_37 : decode cX5_goes 37 = .ok (.goto 4, 3) := by decide +kernel
theorem dX5_goes_40 : decode cX5_goes 40 = .ok (.iconst 0, 1) := by decide +kernel
theorem dX5_goes_41 : decode cX5_goes 41 = .ok (.ireturn, 1) := by decide +kernel
theorem dX5_told_0 : decode cX5_told 0 = .ok (.aload_n 0, 1) := by decide +kernel
theorem dX5_told_1 : decode cX5_told 1 = .ok (.iconst 0, 1) := by decide +kernel
theorem dX5_told_2 : decode cX5_told 2 = .ok (.putfield 66, 3) := by decide +kernel
theorem dX5_told_5 : decode cX5_told 5 = .ok (.iload_n 1, 1) := by decide +kernel
theorem dX5_told_6 : decode cX5_told 6 = .ok (.ireturn, 1) := by decide +kernel
theorem dX5_isPage_0 : decode cX5_isPage 0 = .ok (.iload_n 1, 1) := by decide +kernel
theorem dX5_isPage_1 : decode cX5_isPage 1 = .ok (.iconst 0, 1) := by decide +kernel
theorem dX5_isPage_2 : decode cX5_isPage 2 = .ok (.aload_n 0, 1) := by decide +kernel
theorem dX5_isPage_3 : decode cX5_isPage 3 = .ok (.getfield 70, 3) := by decide +kernel
theorem dX5_isPage_6 : decode cX5_isPage 6 = .ok (.iconst 1, 1) := by decide +kernel
theorem dX5_isPage_7 : decode cX5_isPage 7 = .ok (.isub, 1) := by decide +kernel
theorem dX5_isPage_8 : decode cX5_isPage 8 = .ok (.invokestatic 73, 3) := by decide +kernel
theorem dX5_isPage_11 : decode cX5_isPage 11 = .ok (.ireturn, 1) := by decide +kernel
theorem dX5_isFont_0 : decode cX5_isFont 0 = .ok (.iload_n 0, 1) := by decide +kernel
theorem dX5_isFont_1 : decode cX5_isFont 1 = .ok (.iconst 0, 1) := by decide +kernel
theorem dX5_isFont_2 : decode cX5_isFont 2 = .ok (.bipush 7, 2) := by decide +kernel
theorem dX5_isFont_4 : decode cX5_isFont 4 = .ok (.invokestatic 73, 3) := by decide +kernel
theorem dX5_isFont_7 : decode cX5_isFont 7 = .ok (.ireturn, 1) := by decide +kernel
theorem dX5_isColor_0 : decode cX5_isColor 0 = .ok (.iload_n 0, 1) := by decide +kernel
theorem dX5_isColor_1 : decode cX5_isColor 1 = .ok (.iconst 0, 1) := by decide +kernel
theorem dX5_isColor_2 : decode cX5_isColor 2 = .ok (.iconst 3, 1) := by decide +kernel
theorem dX5_isColor_3 : decode cX5_isColor 3 = .ok (.invokestatic 73, 3) := by decide +kernel
theorem dX5_isColor_6 : decode cX5_isColor 6 = .ok (.ireturn, 1) := by decide +kernel
theorem dX5_isSide_0 : decode cX5_isSide 0 = .ok (.iload_n 0, 1) := by decide +kernel
theorem dX5_isSide_1 : decode cX5_isSide 1 = .ok (.iconst 0, 1) := by decide +kernel
theorem dX5_isSide_2 : decode cX5_isSide 2 = .ok (.iconst 1, 1) := by decide +kernel
theorem dX5_isSide_3 : decode cX5_isSide 3 = .ok (.invokestatic 73, 3) := by decide +kernel
theorem dX5_isSide_6 : decode cX5_isSide 6 = .ok (.ireturn, 1) := by decide +kernel
theorem dX5_has_0 : decode cX5_has 0 = .ok (.iload_n 0, 1) := by decide +kernel
theorem dX5_has_1 : decode cX5_has 1 = .ok (.iload_n 1, 1) := by decide +kernel
theorem dX5_has_2 : decode cX5_has 2 = .ok (.ishr, 1) := by decide +kernel
theorem dX5_has_3 : decode cX5_has 3 = .ok (.iconst 1, 1) := by decide +kernel
theorem dX5_has_4 : decode cX5_has 4 = .ok (.iand, 1) := by decide +kernel
theorem dX5_has_5 : decode cX5_has 5 = .ok (.iconst 1, 1) := by decide +kernel
theorem dX5_has_6 : decode cX5_has 6 = .ok (.if_icmp .ne 7, 3) := by decide +kernel
theorem dX5_has_9 : decode cX5_has 9 = .ok (.iconst 1, 1) := by decide +kernel
theorem dX5_has_10 : decode cX5_has 10 = .ok (.goto 4, 3) := by decide +kernel
theorem dX5_has_13 : decode cX5_has 13 = .ok (.iconst 0, 1) := by decide +kernel
theorem dX5_has_14 : decode cX5_has 14 = .ok (.ireturn, 1) := by decide +kernel
theorem dX5_lays_0 : decode cX5_lays 0 = .ok (.aload_n 0, 1) := by decide +kernel
theorem dX5_lays_1 : decode cX5_lays 1 = .ok (.iload_n 1, 1) := by decide +kernel
theorem dX5_lays_2 : decode cX5_lays 2 = .ok (.putfield 77, 3) := by decide +kernel
theorem dX5_lays_5 : decode cX5_lays 5 = .ok (.aload_n 0, 1) := by decide +kernel
theorem dX5_lays_6 : decode cX5_lays 6 = .ok (.iconst 1, 1) := by decide +kernel
theorem dX5_lays_7 : decode cX5_lays 7 = .ok (.putfield 80, 3) := by decide +kernel
theorem dX5_lays_10 : decode cX5_lays 10 = .ok (.aload_n 0, 1) := by decide +kernel
theorem dX5_lays_11 : decode cX5_lays 11 = .ok (.iconst 1, 1) := by decide +kernel
theorem dX5_lays_12 : decode cX5_lays 12 = .ok (.putfield 83, 3) := by decide +kernel
theorem dX5_lays_15 : decode cX5_lays 15 = .ok (.iload_n 2, 1) := by decide +kernel
theorem dX5_lays_16 : decode cX5_lays 16 = .ok (.istore_n 3, 1) := by decide +kernel
theorem dX5_lays_17 : decode cX5_lays 17 = .ok (.iconst 0, 1) := by decide +kernel
theorem dX5_lays_18 : decode cX5_lays 18 = .ok (.istore 4, 2) := by decide +kernel
theorem dX5_lays_20 : decode cX5_lays 20 = .ok (.iload 4, 2) := by decide +kernel
theorem dX5_lays_22 : decode cX5_lays 22 = .ok (.iload_n 1, 1) := by decide +kernel
theorem dX5_lays_23 : decode cX5_lays 23 = .ok (.if_icmp .ge 94, 3) := by decide +kernel
theorem dX5_lays_26 : decode cX5_lays 26 = .ok (.aload_n 0, 1) := by decide +kernel
theorem dX5_lays_27 : decode cX5_lays 27 = .ok (.getfield 31, 3) := by decide +kernel
theorem dX5_lays_30 : decode cX5_lays 30 = .ok (.iload 4, 2) := by decide +kernel
theorem dX5_lays_32 : decode cX5_lays 32 = .ok (.iload_n 3, 1) := by decide +kernel
theorem dX5_lays_33 : decode cX5_lays 33 = .ok (.iconst 4, 1) := by decide +kernel
theorem dX5_lays_34 : decode cX5_lays 34 = .ok (.irem, 1) := by decide +kernel
theorem dX5_lays_35 : decode cX5_lays 35 = .ok (.iastore, 1) := by decide +kernel
theorem dX5_lays_36 : decode cX5_lays 36 = .ok (.iload_n 3, 1) := by decide +kernel
theorem dX5_lays_37 : decode cX5_lays 37 = .ok (.iconst 4, 1) := by decide +kernel
theorem dX5_lays_38 : decode cX5_lays 38 = .ok (.idiv, 1) := by decide +kernel
theorem dX5_lays_39 : decode cX5_lays 39 = .ok (.istore_n 3, 1) := by decide +kernel
theorem dX5_lays_40 : decode cX5_lays 40 = .ok (.aload_n 0, 1) := by decide +kernel
theorem dX5_lays_41 : decode cX5_lays 41 = .ok (.dup, 1) := by decide +kernel
theorem dX5_lays_42 : decode cX5_lays 42 = .ok (.getfield 83, 3) := by decide +kernel
theorem dX5_lays_45 : decode cX5_lays 45 = .ok (.aload_n 0, 1) := by decide +kernel
theorem dX5_lays_46 : decode cX5_lays 46 = .ok (.getfield 31, 3) := by decide +kernel
theorem dX5_lays_49 : decode cX5_lays 49 = .ok (.iload 4, 2) := by decide +kernel
theorem dX5_lays_51 : decode cX5_lays 51 = .ok (.iaload, 1) := by decide +kernel
theorem dX5_lays_52 : decode cX5_lays 52 = .ok (.ifCond .eq 14, 3) := by decide +kernel
theorem dX5_lays_55 : decode cX5_lays 55 = .ok (.aload_n 0, 1) := by decide +kernel
theorem dX5_lays_56 : decode cX5_lays 56 = .ok (.getfield 31, 3) := by decide +kernel
theorem dX5_lays_59 : decode cX5_lays 59 = .ok (.iload 4, 2) := by decide +kernel
theorem dX5_lays_61 : decode cX5_lays 61 = .ok (.iaload, 1) := by decide +kernel
theorem dX5_lays_62 : decode cX5_lays 62 = .ok (.iconst 1, 1) := by decide +kernel
theorem dX5_lays_63 : decode cX5_lays 63 = .ok (.if_icmp .ne 7, 3) := by decide +kernel
theorem dX5_lays_66 : decode cX5_lays 66 = .ok (.iconst 2, 1) := by decide +kernel
theorem dX5_lays_67 : decode cX5_lays 67 = .ok (.goto 4, 3) := by decide +kernel
theorem dX5_lays_70 : decode cX5_lays 70 = .ok (.iconst 1, 1) := by decide +kernel
theorem dX5_lays_71 : decode cX5_lays 71 = .ok (.imul, 1) := by decide +kernel
theorem dX5_lays_72 : decode cX5_lays 72 = .ok (.putfield 83, 3) := by decide +kernel
theorem dX5_lays_75 : decode cX5_lays 75 = .ok (.aload_n 0, 1) := by decide +kernel
theorem dX5_lays_76 : decode cX5_lays 76 = .ok (.dup, 1) := by decide +kernel
theorem dX5_lays_77 : decode cX5_lays 77 = .ok (.getfield 80, 3) := by decide +kernel
theorem dX5_lays_80 : decode cX5_lays 80 = .ok (.aload_n 0, 1) := by decide +kernel
theorem dX5_lays_81 : decode cX5_lays 81 = .ok (.getfield 31, 3) := by decide +kernel
theorem dX5_lays_84 : decode cX5_lays 84 = .ok (.iload 4, 2) := by decide +kernel
theorem dX5_lays_86 : decode cX5_lays 86 = .ok (.iaload, 1) := by decide +kernel
theorem dX5_lays_87 : decode cX5_lays 87 = .ok (.iconst 2, 1) := by decide +kernel
theorem dX5_lays_88 : decode cX5_lays 88 = .ok (.if_icmp .eq 14, 3) := by decide +kernel
theorem dX5_lays_91 : decode cX5_lays 91 = .ok (.aload_n 0, 1) := by decide +kernel
theorem dX5_lays_92 : decode cX5_lays 92 = .ok (.getfield 31, 3) := by decide +kernel
theorem dX5_lays_95 : decode cX5_lays 95 = .ok (.iload 4, 2) := by decide +kernel
theorem dX5_lays_97 : decode cX5_lays 97 = .ok (.iaload, 1) := by decide +kernel
theorem dX5_lays_98 : decode cX5_lays 98 = .ok (.iconst 3, 1) := by decide +kernel
theorem dX5_lays_99 : decode cX5_lays 99 = .ok (.if_icmp .ne 7, 3) := by decide +kernel
theorem dX5_lays_102 : decode cX5_lays 102 = .ok (.iconst 2, 1) := by decide +kernel
theorem dX5_lays_103 : decode cX5_lays 103 = .ok (.goto 4, 3) := by decide +kernel
theorem dX5_lays_106 : decode cX5_lays 106 = .ok (.iconst 1, 1) := by decide +kernel
theorem dX5_lays_107 : decode cX5_lays 107 = .ok (.imul, 1) := by decide +kernel
theorem dX5_lays_108 : decode cX5_lays 108 = .ok (.putfield 80, 3) := by decide +kernel
theorem dX5_lays_111 : decode cX5_lays 111 = .ok (.iinc 4 1, 3) := by decide +kernel
theorem dX5_lays_114 : decode cX5_lays 114 = .ok (.goto (-94), 3) := by decide +kernel
theorem dX5_lays_117 : decode cX5_lays 117 = .ok (.iconst 0, 1) := by decide +kernel
theorem dX5_lays_118 : decode cX5_lays 118 = .ok (.istore 4, 2) := by decide +kernel
theorem dX5_lays_120 : decode cX5_lays 120 = .ok (.iload 4, 2) := by decide +kernel
theorem dX5_lays_122 : decode cX5_lays 122 = .ok (.aload_n 0, 1) := by decide +kernel
theorem dX5_lays_123 : decode cX5_lays 123 = .ok (.getfield 80, 3) := by decide +kernel
theorem dX5_lays_126 : decode cX5_lays 126 = .ok (.aload_n 0, 1) := by decide +kernel
theorem dX5_lays_127 : decode cX5_lays 127 = .ok (.getfield 83, 3) := by decide +kernel
theorem dX5_lays_130 : decode cX5_lays 130 = .ok (.imul, 1) := by decide +kernel
theorem dX5_lays_131 : decode cX5_lays 131 = .ok (.if_icmp .ge 15, 3) := by decide +kernel
theorem dX5_lays_134 : decode cX5_lays 134 = .ok (.aload_n 0, 1) := by decide +kernel
theorem dX5_lays_135 : decode cX5_lays 135 = .ok (.iload 4, 2) := by decide +kernel
theorem dX5_lays_137 : decode cX5_lays 137 = .ok (.invokevirtual 86, 3) := by decide +kernel
theorem dX5_lays_140 : decode cX5_lays 140 = .ok (.iinc 4 1, 3) := by decide +kernel
theorem dX5_lays_143 : decode cX5_lays 143 = .ok (.goto (-23), 3) := by decide +kernel
theorem dX5_lays_146 : decode cX5_lays 146 = .ok (.return_, 1) := by decide +kernel
theorem dX5_follows_0 : decode cX5_follows 0 = .ok (.iload_n 1, 1) := by decide +kernel
theorem dX5_follows_1 : decode cX5_follows 1 = .ok (.aload_n 0, 1) := by decide +kernel
theorem dX5_follows_2 : decode cX5_follows 2 = .ok (.getfield 83, 3) := by decide +kernel
theorem dX5_follows_5 : decode cX5_follows 5 = .ok (.idiv, 1) := by decide +kernel
theorem dX5_follows_6 : decode cX5_follows 6 = .ok (.istore_n 2, 1) := by decide +kernel
theorem dX5_follows_7 : decode cX5_follows 7 = .ok (.iload_n 1, 1) := by decide +kernel
theorem dX5_follows_8 : decode cX5_follows 8 = .ok (.aload_n 0, 1) := by decide +kernel
theorem dX5_follows_9 : decode cX5_follows 9 = .ok (.getfield 83, 3) := by decide +kernel
theorem dX5_follows_12 : decode cX5_follows 12 = .ok (.irem, 1) := by decide +kernel
theorem dX5_follows_13 : decode cX5_follows 13 = .ok (.istore_n 3, 1) := by decide +kernel
theorem dX5_follows_14 : decode cX5_follows 14 = .ok (.aload_n 0, 1) := by decide +kernel
theorem dX5_follows_15 : decode cX5_follows 15 = .ok (.getfield 80, 3) := by decide +kernel
theorem dX5_follows_18 : decode cX5_follows 18 = .ok (.istore 4, 2) := by decide +kernel
theorem dX5_follows_20 : decode cX5_follows 20 = .ok (.aload_n 0, 1) := by decide +kernel
theorem dX5_follows_21 : decode cX5_follows 21 = .ok (.getfield 83, 3) := by decide +kernel
theorem dX5_follows_24 : decode cX5_follows 24 = .ok (.istore 5, 2) := by decide +kernel
theorem dX5_follows_26 : decode cX5_follows 26 = .ok (.iconst 0, 1) := by decide +kernel
theorem dX5_follows_27 : decode cX5_follows 27 = .ok (.istore 6, 2) := by decide +kernel
theorem dX5_follows_29 : decode cX5_follows 29 = .ok (.aload_n 0, 1) := by decide +kernel
theorem dX5_follows_30 : decode cX5_follows 30 = .ok (.getfield 37, 3) := by decide +kernel
theorem dX5_follows_33 : decode cX5_follows 33 = .ok (.iload_n 1, 1) := by decide +kernel
theorem dX5_follows_34 : decode cX5_follows 34 = .ok (.iconst 0, 1) := by decide +kernel
theorem dX5_follows_35 : decode cX5_follows 35 = .ok (.iastore, 1) := by decide +kernel
theorem dX5_follows_36 : decode cX5_follows 36 = .ok (.aload_n 0, 1) := by decide +kernel
theorem dX5_follows_37 : decode cX5_follows 37 = .ok (.getfield 40, 3) := by decide +kernel
theorem dX5_follows_40 : decode cX5_follows 40 = .ok (.iload_n 1, 1) := by decide +kernel
theorem dX5_follows_41 : decode cX5_follows 41 = .ok (.iconst 0, 1) := by decide +kernel
theorem dX5_follows_42 : decode cX5_follows 42 = .ok (.iastore, 1) := by decide +kernel
theorem dX5_follows_43 : decode cX5_follows 43 = .ok (.iconst 0, 1) := by decide +kernel
theorem dX5_follows_44 : decode cX5_follows 44 = .ok (.istore 7, 2) := by decide +kernel
theorem dX5_follows_46 : decode cX5_follows 46 = .ok (.iload 7, 2) := by decide +kernel
theorem dX5_follows_48 : decode cX5_follows 48 = .ok (.aload_n 0, 1) := by decide +kernel
theorem dX5_follows_49 : decode cX5_follows 49 = .ok (.getfield 77, 3) := by decide +kernel
theorem dX5_follows_52 : decode cX5_follows 52 = .ok (.if_icmp .ge 289, 3) := by decide +kernel
theorem dX5_follows_55 : decode cX5_follows 55 = .ok (.iconst 1, 1) := by decide +kernel
theorem dX5_follows_56 : decode cX5_follows 56 = .ok (.iload 7, 2) := by decide +kernel
theorem dX5_follows_58 : decode cX5_follows 58 = .ok (.ishl, 1) := by decide +kernel
theorem dX5_follows_59 : decode cX5_follows 59 = .ok (.istore 8, 2) := by decide +kernel
theorem dX5_follows_61 : decode cX5_follows 61 = .ok (.aload_n 0, 1) := by decide +kernel
theorem dX5_follows_62 : decode cX5_follows 62 = .ok (.getfield 31, 3) := by decide +kernel
theorem dX5_follows_65 : decode cX5_follows 65 = .ok (.iload 7, 2) := by decide +kernel
theorem dX5_follows_67 : decode cX5_follows 67 = .ok (.iaload, 1) := by decide +kernel
theorem dX5_follows_68 : decode cX5_follows 68 = .ok (.ifCond .eq 14, 3) := by decide +kernel
theorem dX5_follows_71 : decode cX5_follows 71 = .ok (.aload_n 0, 1) := by decide +kernel
theorem dX5_follows_72 : decode cX5_follows 72 = .ok (.getfield 31, 3) := by decide +kernel
theorem dX5_follows_75 : decode cX5_follows 75 = .ok (.iload 7, 2) := by decide +kernel
theorem dX5_follows_77 : decode cX5_follows 77 = .ok (.iaload, 1) := by decide +kernel
theorem dX5_follows_78 : decode cX5_follows 78 = .ok (.iconst 1, 1) := by decide +kernel
theorem dX5_follows_79 : decode cX5_follows 79 = .ok (.if_icmp .ne 7, 3) := by decide +kernel
theorem dX5_follows_82 : decode cX5_follows 82 = .ok (.iconst 1, 1) := by decide +kernel
theorem dX5_follows_83 : decode cX5_follows 83 = .ok (.goto 4, 3) := by decide +kernel
theorem dX5_follows_86 : decode cX5_follows 86 = .ok (.iconst 0, 1) := by decide +kernel
theorem dX5_follows_87 : decode cX5_follows 87 = .ok (.istore 9, 2) := by decide +kernel
theorem dX5_follows_89 : decode cX5_follows 89 = .ok (.iload 9, 2) := by decide +kernel
theorem dX5_follows_91 : decode cX5_follows 91 = .ok (.ifCond .eq 10, 3) := by decide +kernel
theorem dX5_follows_94 : decode cX5_follows 94 = .ok (.iload 5, 2) := by decide +kernel
theorem dX5_follows_96 : decode cX5_follows 96 = .ok (.iconst 2, 1) := by decide +kernel
theorem dX5_follows_97 : decode cX5_follows 97 = .ok (.idiv, 1) := by decide +kernel
theorem dX5_follows_98 : decode cX5_follows 98 = .ok (.goto 7, 3) := by decide +kernel
theorem dX5_follows_101 : decode cX5_follows 101 = .ok (.iload 4, 2) := by decide +kernel
theorem dX5_follows_103 : decode cX5_follows 103 = .ok (.iconst 2, 1) := by decide +kernel
theorem dX5_follows_104 : decode cX5_follows 104 = .ok (.idiv, 1) := by decide +kernel
theorem dX5_follows_105 : decode cX5_follows 105 = .ok (.istore 10, 2) := by decide +kernel
theorem dX5_follows_107 : decode cX5_follows 107 = .ok (.iload 9, 2) := by decide +kernel
theorem dX5_follows_109 : decode cX5_follows 109 = .ok (.ifCond .eq 7, 3) := by decide +kernel
theorem dX5_follows_112 : decode cX5_follows 112 = .ok (.iload_n 3, 1) := by decide +kernel
theorem dX5_follows_113 : decode cX5_follows 113 = .ok (.goto 4, 3) := by decide +kernel
theorem dX5_follows_116 : decode cX5_follows 116 = .ok (.iload_n 2, 1) := by decide +kernel
theorem dX5_follows_117 : decode cX5_follows 117 = .ok (.istore 11, 2) := by decide +kernel
theorem dX5_follows_119 : decode cX5_follows 119 = .ok (.aload_n 0, 1) := by decide +kernel
theorem dX5_follows_120 : decode cX5_follows 120 = .ok (.getfield 31, 3) := by decide +kernel
theorem dX5_follows_123 : decode cX5_follows 123 = .ok (.iload 7, 2) := by decide +kernel
theorem dX5_follows_125 : decode cX5_follows 125 = .ok (.iaload, 1) := by decide +kernel
theorem dX5_follows_126 : decode cX5_follows 126 = .ok (.ifCond .eq 14, 3) := by decide +kernel
theorem dX5_follows_129 : decode cX5_follows 129 = .ok (.aload_n 0, 1) := by decide +kernel
theorem dX5_follows_130 : decode cX5_follows 130 = .ok (.getfield 31, 3) := by decide +kernel
theorem dX5_follows_133 : decode cX5_follows 133 = .ok (.iload 7, 2) := by decide +kernel
theorem dX5_follows_135 : decode cX5_follows 135 = .ok (.iaload, 1) := by decide +kernel
theorem dX5_follows_136 : decode cX5_follows 136 = .ok (.iconst 2, 1) := by decide +kernel
theorem dX5_follows_137 : decode cX5_follows 137 = .ok (.if_icmp .ne 7, 3) := by decide +kernel
theorem dX5_follows_140 : decode cX5_follows 140 = .ok (.iconst 1, 1) := by decide +kernel
theorem dX5_follows_141 : decode cX5_follows 141 = .ok (.goto 4, 3) := by decide +kernel
theorem dX5_follows_144 : decode cX5_follows 144 = .ok (.iconst 0, 1) := by decide +kernel
theorem dX5_follows_145 : decode cX5_follows 145 = .ok (.istore 12, 2) := by decide +kernel
theorem dX5_follows_147 : decode cX5_follows 147 = .ok (.iload 12, 2) := by decide +kernel
theorem dX5_follows_149 : decode cX5_follows 149 = .ok (.ifCond .eq 18, 3) := by decide +kernel
theorem dX5_follows_152 : decode cX5_follows 152 = .ok (.iload 11, 2) := by decide +kernel
theorem dX5_follows_154 : decode cX5_follows 154 = .ok (.iload 10, 2) := by decide +kernel
theorem dX5_follows_156 : decode cX5_follows 156 = .ok (.if_icmp .lt 7, 3) := by decide +kernel
theorem dX5_follows_159 : decode cX5_follows 159 = .ok (.iconst 1, 1) := by decide +kernel
theorem dX5_follows_160 : decode cX5_follows 160 = .ok (.goto 19, 3) := by decide +kernel
theorem dX5_follows_163 : decode cX5_follows 163 = .ok (.iconst 0, 1) := by decide +kernel
theorem dX5_follows_164 : decode cX5_follows 164 = .ok (.goto 15, 3) := by decide +kernel
theorem dX5_follows_167 : decode cX5_follows 167 = .ok (.iload 11, 2) := by decide +kernel
theorem dX5_follows_169 : decode cX5_follows 169 = .ok (.iload 10, 2) := by decide +kernel
theorem dX5_follows_171 : decode cX5_follows 171 = .ok (.if_icmp .ge 7, 3) := by decide +kernel
theorem dX5_follows_174 : decode cX5_follows 174 = .ok (.iconst 1, 1) := by decide +kernel
theorem dX5_follows_175 : decode cX5_follows 175 = .ok (.goto 4, 3) := by decide +kernel
theorem dX5_follows_178 : decode cX5_follows 178 = .ok (.iconst 0, 1) := by decide +kernel
theorem dX5_follows_179 : decode cX5_follows 179 = .ok (.istore 13, 2) := by decide +kernel
theorem dX5_follows_181 : decode cX5_follows 181 = .ok (.iload 13, 2) := by decide +kernel
theorem dX5_follows_183 : decode cX5_follows 183 = .ok (.ifCond .eq 15, 3) := by decide +kernel
theorem dX5_follows_186 : decode cX5_follows 186 = .ok (.iconst 2, 1) := by decide +kernel
theorem dX5_follows_187 : decode cX5_follows 187 = .ok (.iload 10, 2) := by decide +kernel
theorem dX5_follows_189 : decode cX5_follows 189 = .ok (.imul, 1) := by decide +kernel
theorem dX5_follows_190 : decode cX5_follows 190 = .ok (.iconst 1, 1) := by decide +kernel
theorem dX5_follows_191 : decode cX5_follows 191 = .ok (.isub, 1) := by decide +kernel
theorem dX5_follows_192 : decode cX5_follows 192 = .ok (.iload 11, 2) := by decide +kernel
theorem dX5_follows_194 : decode cX5_follows 194 = .ok (.isub, 1) := by decide +kernel
theorem dX5_follows_195 : decode cX5_follows 195 = .ok (.goto 5, 3) := by decide +kernel
theorem dX5_follows_198 : decode cX5_follows 198 = .ok (.iload 11, 2) := by decide +kernel
theorem dX5_follows_200 : decode cX5_follows 200 = .ok (.istore 14, 2) := by decide +kernel
theorem dX5_follows_202 : decode cX5_follows 202 = .ok (.iload 12, 2) := by decide +kernel
theorem dX5_follows_204 : decode cX5_follows 204 = .ok (.ifCond .eq 8, 3) := by decide +kernel
theorem dX5_follows_207 : decode cX5_follows 207 = .ok (.iload 14, 2) := by decide +kernel
theorem dX5_follows_209 : decode cX5_follows 209 = .ok (.goto 8, 3) := by decide +kernel
theorem dX5_follows_212 : decode cX5_follows 212 = .ok (.iload 14, 2) := by decide +kernel
theorem dX5_follows_214 : decode cX5_follows 214 = .ok (.iload 10, 2) := by decide +kernel
theorem dX5_follows_216 : decode cX5_follows 216 = .ok (.isub, 1) := by decide +kernel
theorem dX5_follows_217 : decode cX5_follows 217 = .ok (.istore 15, 2) := by decide +kernel
theorem dX5_follows_219 : decode cX5_follows 219 = .ok (.iload 9, 2) := by decide +kernel
theorem dX5_follows_221 : decode cX5_follows 221 = .ok (.ifCond .eq 8, 3) := by decide +kernel
theorem dX5_follows_224 : decode cX5_follows 224 = .ok (.iload 15, 2) := by decide +kernel
theorem dX5_follows_226 : decode cX5_follows 226 = .ok (.goto 4, 3) := by decide +kernel
theorem dX5_follows_229 : decode cX5_follows 229 = .ok (.iload_n 3, 1) := by decide +kernel
theorem dX5_follows_230 : decode cX5_follows 230 = .ok (.istore_n 3, 1) := by decide +kernel
theorem dX5_follows_231 : decode cX5_follows 231 = .ok (.iload 9, 2) := by decide +kernel
theorem dX5_follows_233 : decode cX5_follows 233 = .ok (.ifCond .eq 7, 3) := by decide +kernel
theorem dX5_follows_236 : decode cX5_follows 236 = .ok (.iload_n 2, 1) := by decide +kernel
theorem dX5_follows_237 : decode cX5_follows 237 = .ok (.goto 5, 3) := by decide +kernel
theorem dX5_follows_240 : decode cX5_follows 240 = .ok (.iload 15, 2) := by decide +kernel
theorem dX5_follows_242 : decode cX5_follows 242 = .ok (.istore_n 2, 1) := by decide +kernel
theorem dX5_follows_243 : decode cX5_follows 243 = .ok (.iload 9, 2) := by decide +kernel
theorem dX5_follows_245 : decode cX5_follows 245 = .ok (.ifCond .eq 8, 3) := by decide +kernel
theorem dX5_follows_248 : decode cX5_follows 248 = .ok (.iload 10, 2) := by decide +kernel
theorem dX5_follows_250 : decode cX5_follows 250 = .ok (.goto 5, 3) := by decide +kernel
theorem dX5_follows_253 : decode cX5_follows 253 = .ok (.iload 5, 2) := by decide +kernel
theorem dX5_follows_255 : decode cX5_follows 255 = .ok (.istore 5, 2) := by decide +kernel
theorem dX5_follows_257 : decode cX5_follows 257 = .ok (.iload 9, 2) := by decide +kernel
theorem dX5_follows_259 : decode cX5_follows 259 = .ok (.ifCond .eq 8, 3) := by decide +kernel
theorem dX5_follows_262 : decode cX5_follows 262 = .ok (.iload 4, 2) := by decide +kernel
theorem dX5_follows_264 : decode cX5_follows 264 = .ok (.goto 5, 3) := by decide +kernel
theorem dX5_follows_267 : decode cX5_follows 267 = .ok (.iload 10, 2) := by decide +kernel
theorem dX5_follows_269 : decode cX5_follows 269 = .ok (.istore 4, 2) := by decide +kernel
theorem dX5_follows_271 : decode cX5_follows 271 = .ok (.iload 13, 2) := by decide +kernel
theorem dX5_follows_273 : decode cX5_follows 273 = .ok (.ifCond .eq 15, 3) := by decide +kernel
theorem dX5_follows_276 : decode cX5_follows 276 = .ok (.iconst 2, 1) := by decide +kernel
theorem dX5_follows_277 : decode cX5_follows 277 = .ok (.iload 8, 2) := by decide +kernel
theorem dX5_follows_279 : decode cX5_follows 279 = .ok (.imul, 1) := by decide +kernel
theorem dX5_follows_280 : decode cX5_follows 280 = .ok (.iconst 1, 1) := by decide +kernel
theorem dX5_follows_281 : decode cX5_follows 281 = .ok (.isub, 1) := by decide +kernel
theorem dX5_follows_282 : decode cX5_follows 282 = .ok (.iload 6, 2) := by decide +kernel
theorem dX5_follows_284 : decode cX5_follows 284 = .ok (.isub, 1) := by decide +kernel
theorem dX5_follows_285 : decode cX5_follows 285 = .ok (.goto 5, 3) := by decide +kernel
theorem dX5_follows_288 : decode cX5_follows 288 = .ok (.iload 6, 2) := by decide +kernel
theorem dX5_follows_290 : decode cX5_follows 290 = .ok (.istore 6, 2) := by decide +kernel
theorem dX5_follows_292 : decode cX5_follows 292 = .ok (.aload_n 0, 1) := by decide +kernel
theorem dX5_follows_293 : decode cX5_follows 293 = .ok (.getfield 37, 3) := by decide +kernel
theorem dX5_follows_296 : decode cX5_follows 296 = .ok (.iload_n 1, 1) := by decide +kernel
theorem dX5_follows_297 : decode cX5_follows 297 = .ok (.dup2, 1) := by decide +kernel
theorem dX5_follows_298 : decode cX5_follows 298 = .ok (.iaload, 1) := by decide +kernel
theorem dX5_follows_299 : decode cX5_follows 299 = .ok (.iload 13, 2) := by decide +kernel
theorem dX5_follows_301 : decode cX5_follows 301 = .ok (.ifCond .eq 7, 3) := by decide +kernel
theorem dX5_follows_304 : decode cX5_follows 304 = .ok (.iconst 1, 1) := by decide +kernel
theorem dX5_follows_305 : decode cX5_follows 305 = .ok (.goto 4, 3) := by decide +kernel
theorem dX5_follows_308 : decode cX5_follows 308 = .ok (.iconst 0, 1) := by decide +kernel
theorem dX5_follows_309 : decode cX5_follows 309 = .ok (.ixor, 1) := by decide +kernel
theorem dX5_follows_310 : decode cX5_follows 310 = .ok (.iastore, 1) := by decide +kernel
theorem dX5_follows_311 : decode cX5_follows 311 = .ok (.aload_n 0, 1) := by decide +kernel
theorem dX5_follows_312 : decode cX5_follows 312 = .ok (.getfield 40, 3) := by decide +kernel
theorem dX5_follows_315 : decode cX5_follows 315 = .ok (.iload_n 1, 1) := by decide +kernel
theorem dX5_follows_316 : decode cX5_follows 316 = .ok (.dup2, 1) := by decide +kernel
theorem dX5_follows_317 : decode cX5_follows 317 = .ok (.iaload, 1) := by decide +kernel
theorem dX5_follows_318 : decode cX5_follows 318 = .ok (.iload 13, 2) := by decide +kernel
theorem dX5_follows_320 : decode cX5_follows 320 = .ok (.ifCond .eq 12, 3) := by decide +kernel
theorem dX5_follows_323 : decode cX5_follows 323 = .ok (.iload 9, 2) := by decide +kernel
theorem dX5_follows_325 : decode cX5_follows 325 = .ok (.ifCond .ne 7, 3) := by decide +kernel
theorem dX5_follows_328 : decode cX5_follows 328 = .ok (.iconst 1, 1) := by decide +kernel
theorem dX5_follows_329 : decode cX5_follows 329 = .ok (.goto 4, 3) := by decide +kernel
theorem dX5_follows_332 : decode cX5_follows 332 = .ok (.iconst 0, 1) := by decide +kernel
theorem dX5_follows_333 : decode cX5_follows 333 = .ok (.ixor, 1) := by decide +kernel
theorem dX5_follows_334 : decode cX5_follows 334 = .ok (.iastore, 1) := by decide +kernel
theorem dX5_follows_335 : decode cX5_follows 335 = .ok (.iinc 7 1, 3) := by decide +kernel
theorem dX5_follows_338 : decode cX5_follows 338 = .ok (.goto (-292), 3) := by decide +kernel
theorem dX5_follows_341 : decode cX5_follows 341 = .ok (.aload_n 0, 1) := by decide +kernel
theorem dX5_follows_342 : decode cX5_follows 342 = .ok (.getfield 34, 3) := by decide +kernel
theorem dX5_follows_345 : decode cX5_follows 345 = .ok (.iload_n 1, 1) := by decide +kernel
theorem dX5_follows_346 : decode cX5_follows 346 = .ok (.aload_n 0, 1) := by decide +kernel
theorem dX5_follows_347 : decode cX5_follows 347 = .ok (.getfield 80, 3) := by decide +kernel
theorem dX5_follows_350 : decode cX5_follows 350 = .ok (.aload_n 0, 1) := by decide +kernel
theorem dX5_follows_351 : decode cX5_follows 351 = .ok (.getfield 83, 3) := by decide +kernel
theorem dX5_follows_354 : decode cX5_follows 354 = .ok (.imul, 1) := by decide +kernel
theorem dX5_follows_355 : decode cX5_follows 355 = .ok (.iconst 1, 1) := by decide +kernel
theorem dX5_follows_356 : decode cX5_follows 356 = .ok (.isub, 1) := by decide +kernel
theorem dX5_follows_357 : decode cX5_follows 357 = .ok (.iload 6, 2) := by decide +kernel
theorem dX5_follows_359 : decode cX5_follows 359 = .ok (.isub, 1) := by decide +kernel
theorem dX5_follows_360 : decode cX5_follows 360 = .ok (.iastore, 1) := by decide +kernel
theorem dX5_follows_361 : decode cX5_follows 361 = .ok (.return_, 1) := by decide +kernel
theorem dX5_leaves_0 : decode cX5_leaves 0 = .ok (.aload_n 0, 1) := by decide +kernel
theorem dX5_leaves_1 : decode cX5_leaves 1 = .ok (.getfield 80, 3) := by decide +kernel
theorem dX5_leaves_4 : decode cX5_leaves 4 = .ok (.aload_n 0, 1) := by decide +kernel
theorem dX5_leaves_5 : decode cX5_leaves 5 = .ok (.getfield 83, 3) := by decide +kernel
theorem dX5_leaves_8 : decode cX5_leaves 8 = .ok (.imul, 1) := by decide +kernel
theorem dX5_leaves_9 : decode cX5_leaves 9 = .ok (.ireturn, 1) := by decide +kernel
theorem dX5_sheetsOf_0 : decode cX5_sheetsOf 0 = .ok (.aload_n 0, 1) := by decide +kernel
theorem dX5_sheetsOf_1 : decode cX5_sheetsOf 1 = .ok (.getfield 70, 3) := by decide +kernel
theorem dX5_sheetsOf_4 : decode cX5_sheetsOf 4 = .ok (.iconst 2, 1) := by decide +kernel
theorem dX5_sheetsOf_5 : decode cX5_sheetsOf 5 = .ok (.aload_n 0, 1) := by decide +kernel
theorem dX5_sheetsOf_6 : decode cX5_sheetsOf 6 = .ok (.invokevirtual 90, 3) := by decide +kernel
theorem dX5_sheetsOf_9 : decode cX5_sheetsOf 9 = .ok (.imul, 1) := by decide +kernel
theorem dX5_sheetsOf_10 : decode cX5_sheetsOf 10 = .ok (.iadd, 1) := by decide +kernel
theorem dX5_sheetsOf_11 : decode cX5_sheetsOf 11 = .ok (.iconst 1, 1) := by decide +kernel
theorem dX5_sheetsOf_12 : decode cX5_sheetsOf 12 = .ok (.isub, 1) := by decide +kernel
theorem dX5_sheetsOf_13 : decode cX5_sheetsOf 13 = .ok (.iconst 2, 1) := by decide +kernel
theorem dX5_sheetsOf_14 : decode cX5_sheetsOf 14 = .ok (.aload_n 0, 1) := by decide +kernel
theorem dX5_sheetsOf_15 : decode cX5_sheetsOf 15 = .ok (.invokevirtual 90, 3) := by decide +kernel
theorem dX5_sheetsOf_18 : decode cX5_sheetsOf 18 = .ok (.imul, 1) := by decide +kernel
theorem dX5_sheetsOf_19 : decode cX5_sheetsOf 19 = .ok (.idiv, 1) := by decide +kernel
theorem dX5_sheetsOf_20 : decode cX5_sheetsOf 20 = .ok (.ireturn, 1) := by decide +kernel
theorem dX5_pageOn_0 : decode cX5_pageOn 0 = .ok (.iconst 2, 1) := by decide +kernel
theorem dX5_pageOn_1 : decode cX5_pageOn 1 = .ok (.aload_n 0, 1) := by decide +kernel
theorem dX5_pageOn_2 : decode cX5_pageOn 2 = .ok (.invokevirtual 90, 3) := by decide +kernel
theorem dX5_pageOn_5 : decode cX5_pageOn 5 = .ok (.imul, 1) := by decide +kernel
theorem dX5_pageOn_6 : decode cX5_pageOn 6 = .ok (.iload_n 1, 1) := by decide +kernel
theorem dX5_pageOn_7 : decode cX5_pageOn 7 = .ok (.imul, 1) := by decide +kernel
theorem dX5_pageOn_8 : decode cX5_pageOn 8 = .ok (.iconst 2, 1) := by decide +kernel
theorem dX5_pageOn_9 : decode cX5_pageOn 9 = .ok (.aload_n 0, 1) := by decide +kernel
theorem dX5_pageOn_10 : decode cX5_pageOn 10 = .ok (.getfield 34, 3) := by decide +kernel
theorem dX5_pageOn_13 : decode cX5_pageOn 13 = .ok (.iload_n 3, 1) := by decide +kernel
theorem dX5_pageOn_14 : decode cX5_pageOn 14 = .ok (.iaload, 1) := by decide +kernel
theorem dX5_pageOn_15 : decode cX5_pageOn 15 = .ok (.imul, 1) := by decide +kernel
theorem dX5_pageOn_16 : decode cX5_pageOn 16 = .ok (.iadd, 1) := by decide +kernel
theorem dX5_pageOn_17 : decode cX5_pageOn 17 = .ok (.iload_n 2, 1) := by decide +kernel
theorem dX5_pageOn_18 : decode cX5_pageOn 18 = .ok (.aload_n 0, 1) := by decide +kernel
theorem dX5_pageOn_19 : decode cX5_pageOn 19 = .ok (.getfield 37, 3) := by decide +kernel
theorem dX5_pageOn_22 : decode cX5_pageOn 22 = .ok (.iload_n 3, 1) := by decide +kernel
theorem dX5_pageOn_23 : decode cX5_pageOn 23 = .ok (.iaload, 1) := by decide +kernel
theorem dX5_pageOn_24 : decode cX5_pageOn 24 = .ok (.if_icmp .ne 7, 3) := by decide +kernel
theorem dX5_pageOn_27 : decode cX5_pageOn 27 = .ok (.iconst 0, 1) := by decide +kernel
theorem dX5_pageOn_28 : decode cX5_pageOn 28 = .ok (.goto 4, 3) := by decide +kernel
theorem dX5_pageOn_31 : decode cX5_pageOn 31 = .ok (.iconst 1, 1) := by decide +kernel
theorem dX5_pageOn_32 : decode cX5_pageOn 32 = .ok (.iadd, 1) := by decide +kernel
theorem dX5_pageOn_33 : decode cX5_pageOn 33 = .ok (.istore 4, 2) := by decide +kernel
theorem dX5_pageOn_35 : decode cX5_pageOn 35 = .ok (.iload 4, 2) := by decide +kernel
theorem dX5_pageOn_37 : decode cX5_pageOn 37 = .ok (.aload_n 0, 1) := by decide +kernel
theorem dX5_pageOn_38 : decode cX5_pageOn 38 = .ok (.getfield 70, 3) := by decide +kernel
theorem dX5_pageOn_41 : decode cX5_pageOn 41 = .ok (.if_icmp .ge 8, 3) := by decide +kernel
theorem dX5_pageOn_44 : decode cX5_pageOn 44 = .ok (.iload 4, 2) := by decide +kernel
theorem dX5_pageOn_46 : decode cX5_pageOn 46 = .ok (.goto 4, 3) := by decide +kernel
theorem dX5_pageOn_49 : decode cX5_pageOn 49 = .ok (.iconst (-1), 1) := by decide +kernel
theorem dX5_pageOn_50 : decode cX5_pageOn 50 = .ok (.ireturn, 1) := by decide +kernel
theorem dX5_areSets_0 : decode cX5_areSets 0 = .ok (.iload_n 0, 1) := by decide +kernel
theorem dX5_areSets_1 : decode cX5_areSets 1 = .ok (.iconst 0, 1) := by decide +kernel
theorem dX5_areSets_2 : decode cX5_areSets 2 = .ok (.sipush 255, 3) := by decide +kernel
theorem dX5_areSets_5 : decode cX5_areSets 5 = .ok (.invokestatic 73, 3) := by decide +kernel
theorem dX5_areSets_8 : decode cX5_areSets 8 = .ok (.ifCond .eq 17, 3) := by decide +kernel
theorem dX5_areSets_11 : decode cX5_areSets 11 = .ok (.iload_n 1, 1) := by decide +kernel
theorem dX5_areSets_12 : decode cX5_areSets 12 = .ok (.iconst 0, 1) := by decide +kernel
theorem dX5_areSets_13 : decode cX5_areSets 13 = .ok (.bipush 15, 2) := by decide +kernel
theorem dX5_areSets_15 : decode cX5_areSets 15 = .ok (.invokestatic 73, 3) := by decide +kernel
theorem dX5_areSets_18 : decode cX5_areSets 18 = .ok (.ifCond .eq 7, 3) := by decide +kernel
theorem dX5_areSets_21 : decode cX5_areSets 21 = .ok (.iconst 1, 1) := by decide +kernel
theorem dX5_areSets_22 : decode cX5_areSets 22 = .ok (.goto 4, 3) := by decide +kernel
theorem dX5_areSets_25 : decode cX5_areSets 25 = .ok (.iconst 0, 1) := by decide +kernel
theorem dX5_areSets_26 : decode cX5_areSets 26 = .ok (.ireturn, 1) := by decide +kernel
theorem dX5_clears_0 : decode cX5_clears 0 = .ok (.iconst 0, 1) := by decide +kernel
theorem dX5_clears_1 : decode cX5_clears 1 = .ok (.istore_n 2, 1) := by decide +kernel
theorem dX5_clears_2 : decode cX5_clears 2 = .ok (.iload_n 2, 1) := by decide +kernel
theorem dX5_clears_3 : decode cX5_clears 3 = .ok (.iconst 4, 1) := by decide +kernel
theorem dX5_clears_4 : decode cX5_clears 4 = .ok (.if_icmp .ge 20, 3) := by decide +kernel
theorem dX5_clears_7 : decode cX5_clears 7 = .ok (.aload_n 0, 1) := by decide +kernel
theorem dX5_clears_8 : decode cX5_clears 8 = .ok (.getfield 22, 3) := by decide +kernel
theorem dX5_clears_11 : decode cX5_clears 11 = .ok (.iconst 4, 1) := by decide +kernel
theorem dX5_clears_12 : decode cX5_clears 12 = .ok (.iload_n 1, 1) := by decide +kernel
theorem dX5_clears_13 : decode cX5_clears 13 = .ok (.imul, 1) := by decide +kernel
theorem dX5_clears_14 : decode cX5_clears 14 = .ok (.iload_n 2, 1) := by decide +kernel
theorem dX5_clears_15 : decode cX5_clears 15 = .ok (.iadd, 1) := by decide +kernel
theorem dX5_clears_16 : decode cX5_clears 16 = .ok (.iconst 0, 1) := by decide +kernel
theorem dX5_clears_17 : decode cX5_clears 17 = .ok (.iastore, 1) := by decide +kernel
theorem dX5_clears_18 : decode cX5_clears 18 = .ok (.iinc 2 1, 3) := by decide +kernel
theorem dX5_clears_21 : decode cX5_clears 21 = .ok (.goto (-19), 3) := by decide +kernel
theorem dX5_clears_24 : decode cX5_clears 24 = .ok (.return_, 1) := by decide +kernel
theorem dX5_insert_0 : decode cX5_insert 0 = .ok (.aload_n 0, 1) := by decide +kernel
theorem dX5_insert_1 : decode cX5_insert 1 = .ok (.iload_n 1, 1) := by decide +kernel
theorem dX5_insert_2 : decode cX5_insert 2 = .ok (.iconst 0, 1) := by decide +kernel
theorem dX5_insert_3 : decode cX5_insert 3 = .ok (.aload_n 0, 1) := by decide +kernel
theorem dX5_insert_4 : decode cX5_insert 4 = .ok (.getfield 70, 3) := by decide +kernel
theorem dX5_insert_7 : decode cX5_insert 7 = .ok (.invokestatic 73, 3) := by decide +kernel
theorem dX5_insert_10 : decode cX5_insert 10 = .ok (.iload_n 2, 1) := by decide +kernel
theorem dX5_insert_11 : decode cX5_insert 11 = .ok (.iload_n 3, 1) := by decide +kernel
theorem dX5_insert_12 : decode cX5_insert 12 = .ok (.invokestatic 94, 3) := by decide +kernel
theorem dX5_insert_15 : decode cX5_insert 15 = .ok (.aload_n 0, 1) := by decide +kernel
theorem dX5_insert_16 : decode cX5_insert 16 = .ok (.getfield 70, 3) := by decide +kernel
theorem dX5_insert_19 : decode cX5_insert 19 = .ok (.bipush 64, 2) := by decide +kernel
theorem dX5_insert_21 : decode cX5_insert 21 = .ok (.if_icmp .ge 16, 3) := by decide +kernel
theorem dX5_insert_24 : decode cX5_insert 24 = .ok (.aload_n 0, 1) := by decide +kernel
theorem dX5_insert_25 : decode cX5_insert 25 = .ok (.getfield 98, 3) := by decide +kernel
theorem dX5_insert_28 : decode cX5_insert 28 = .ok (.bipush 100, 2) := by decide +kernel
theorem dX5_insert_30 : decode cX5_insert 30 = .ok (.if_icmp .ge 7, 3) := by decide +kernel
theorem dX5_insert_33 : decode cX5_insert 33 = .ok (.iconst 1, 1) := by decide +kernel
theorem dX5_insert_34 : decode cX5_insert 34 = .ok (.goto 4, 3) := by decide +kernel
theorem dX5_insert_37 : decode cX5_insert 37 = .ok (.iconst 0, 1) := by decide +kernel
theorem dX5_insert_38 : decode cX5_insert 38 = .ok (.invokevirtual 101, 3) := by decide +kernel
theorem dX5_insert_41 : decode cX5_insert 41 = .ok (.ifCond .ne 5, 3) := by decide +kernel
theorem dX5_insert_44 : decode cX5_insert 44 = .ok (.iconst 0, 1) := by decide +kernel
theorem dX5_insert_45 : decode cX5_insert 45 = .ok (.ireturn, 1) := by decide +kernel
theorem dX5_insert_46 : decode cX5_insert 46 = .ok (.aload_n 0, 1) := by decide +kernel
theorem dX5_insert_47 : decode cX5_insert 47 = .ok (.getfield 70, 3) := by decide +kernel
theorem dX5_insert_50 : decode cX5_insert 50 = .ok (.istore 4, 2) := by decide +kernel
theorem dX5_insert_52 : decode cX5_insert 52 = .ok (.iload 4, 2) := by decide +kernel
theorem dX5_insert_54 : decode cX5_insert 54 = .ok (.iload_n 1, 1) := by decide +kernel
theorem dX5_insert_55 : decode cX5_insert 55 = .ok (.if_icmp .le 25, 3) := by decide +kernel
theorem dX5_insert_58 : decode cX5_insert 58 = .ok (.aload_n 0, 1) := by decide +kernel
theorem dX5_insert_59 : decode cX5_insert 59 = .ok (.getfield 7, 3) := by decide +kernel
theorem dX5_insert_62 : decode cX5_insert 62 = .ok (.iload 4, 2) := by decide +kernel
theorem dX5_insert_64 : decode cX5_insert 64 = .ok (.aload_n 0, 1) := by decide +kernel
theorem dX5_insert_65 : decode cX5_insert 65 = .ok (.getfield 7, 3) := by decide +kernel
theorem dX5_insert_68 : decode cX5_insert 68 = .ok (.iload 4, 2) := by decide +kernel
theorem dX5_insert_70 : decode cX5_insert 70 = .ok (.iconst 1, 1) := by decide +kernel
theorem dX5_insert_71 : decode cX5_insert 71 = .ok (.isub, 1) := by decide +kernel
theorem dX5_insert_72 : decode cX5_insert 72 = .ok (.iaload, 1) := by decide +kernel
theorem dX5_insert_73 : decode cX5_insert 73 = .ok (.iastore, 1) := by decide +kernel
theorem dX5_insert_74 : decode cX5_insert 74 = .ok (.iinc 4 (-1), 3) := by decide +kernel
theorem dX5_insert_77 : decode cX5_insert 77 = .ok (.goto (-25), 3) := by decide +kernel
theorem dX5_insert_80 : decode cX5_insert 80 = .ok (.aload_n 0, 1) := by decide +kernel
theorem dX5_insert_81 : decode cX5_insert 81 = .ok (.getfield 7, 3) := by decide +kernel
theorem dX5_insert_84 : decode cX5_insert 84 = .ok (.iload_n 1, 1) := by decide +kernel
theorem dX5_insert_85 : decode cX5_insert 85 = .ok (.aload_n 0, 1) := by decide +kernel
theorem dX5_insert_86 : decode cX5_insert 86 = .ok (.getfield 98, 3) := by decide +kernel
theorem dX5_insert_89 : decode cX5_insert 89 = .ok (.iastore, 1) := by decide +kernel
theorem dX5_insert_90 : decode cX5_insert 90 = .ok (.aload_n 0, 1) := by decide +kernel
theorem dX5_insert_91 : decode cX5_insert 91 = .ok (.getfield 13, 3) := by decide +kernel
theorem dX5_insert_94 : decode cX5_insert 94 = .ok (.aload_n 0, 1) := by decide +kernel
theorem dX5_insert_95 : decode cX5_insert 95 = .ok (.getfield 98, 3) := by decide +kernel
theorem dX5_insert_98 : decode cX5_insert 98 = .ok (.iload_n 2, 1) := by decide +kernel
theorem dX5_insert_99 : decode cX5_insert 99 = .ok (.iastore, 1) := by decide +kernel
theorem dX5_insert_100 : decode cX5_insert 100 = .ok (.aload_n 0, 1) := by decide +kernel
theorem dX5_insert_101 : decode cX5_insert 101 = .ok (.getfield 16, 3) := by decide +kernel
theorem dX5_insert_104 : decode cX5_insert 104 = .ok (.aload_n 0, 1) := by decide +kernel
theorem dX5_insert_105 : decode cX5_insert 105 = .ok (.getfield 98, 3) := by decide +kernel
theorem dX5_insert_108 : decode cX5_insert 108 = .ok (.iload_n 3, 1) := by decide +kernel
theorem dX5_insert_109 : decode cX5_insert 109 = .ok (.iastore, 1) := by decide +kernel
theorem dX5_insert_110 : decode cX5_insert 110 = .ok (.aload_n 0, 1) := by decide +kernel
theorem dX5_insert_111 : decode cX5_insert 111 = .ok (.getfield 19, 3) := by decide +kernel
theorem dX5_insert_114 : decode cX5_insert 114 = .ok (.aload_n 0, 1) := by decide +kernel
theorem dX5_insert_115 : decode cX5_insert 115 = .ok (.getfield 98, 3) := by decide +kernel
theorem dX5_insert_118 : decode cX5_insert 118 = .ok (.iconst 1, 1) := by decide +kernel
theorem dX5_insert_119 : decode cX5_insert 119 = .ok (.iastore, 1) := by decide +kernel
theorem dX5_insert_120 : decode cX5_insert 120 = .ok (.aload_n 0, 1) := by decide +kernel
theorem dX5_insert_121 : decode cX5_insert 121 = .ok (.dup, 1) := by decide +kernel
theorem dX5_insert_122 : decode cX5_insert 122 = .ok (.getfield 98, 3) := by decide +kernel
theorem dX5_insert_125 : decode cX5_insert 125 = .ok (.iconst 1, 1) := by decide +kernel
theorem dX5_insert_126 : decode cX5_insert 126 = .ok (.iadd, 1) := by decide +kernel
theorem dX5_insert_127 : decode cX5_insert 127 = .ok (.putfield 98, 3) := by decide +kernel
theorem dX5_insert_130 : decode cX5_insert 130 = .ok (.aload_n 0, 1) := by decide +kernel
theorem dX5_insert_131 : decode cX5_insert 131 = .ok (.dup, 1) := by decide +kernel
theorem dX5_insert_132 : decode cX5_insert 132 = .ok (.getfield 70, 3) := by decide +kernel
theorem dX5_insert_135 : decode cX5_insert 135 = .ok (.iconst 1, 1) := by decide +kernel
theorem dX5_insert_136 : decode cX5_insert 136 = .ok (.iadd, 1) := by decide +kernel
theorem dX5_insert_137 : decode cX5_insert 137 = .ok (.putfield 70, 3) := by decide +kernel
theorem dX5_insert_140 : decode cX5_insert 140 = .ok (.aload_n 0, 1) := by decide +kernel
theorem dX5_insert_141 : decode cX5_insert 141 = .ok (.getfield 70, 3) := by decide +kernel
theorem dX5_insert_144 : decode cX5_insert 144 = .ok (.ireturn, 1) := by decide +kernel
theorem dX5_takesOut_0 : decode cX5_takesOut 0 = .ok (.aload_n 0, 1) := by decide +kernel
theorem dX5_takesOut_1 : decode cX5_takesOut 1 = .ok (.dup, 1) := by decide +kernel
theorem dX5_takesOut_2 : decode cX5_takesOut 2 = .ok (.getfield 70, 3) := by decide +kernel
theorem dX5_takesOut_5 : decode cX5_takesOut 5 = .ok (.iconst 1, 1) := by decide +kernel
theorem dX5_takesOut_6 : decode cX5_takesOut 6 = .ok (.isub, 1) := by decide +kernel
theorem dX5_takesOut_7 : decode cX5_takesOut 7 = .ok (.putfield 70, 3) := by decide +kernel
theorem dX5_takesOut_10 : decode cX5_takesOut 10 = .ok (.iload_n 1, 1) := by decide +kernel
theorem dX5_takesOut_11 : decode cX5_takesOut 11 = .ok (.istore_n 2, 1) := by decide +kernel
theorem dX5_takesOut_12 : decode cX5_takesOut 12 = .ok (.iload_n 2, 1) := by decide +kernel
theorem dX5_takesOut_13 : decode cX5_takesOut 13 = .ok (.aload_n 0, 1) := by decide +kernel
theorem dX5_takesOut_14 : decode cX5_takesOut 14 = .ok (.getfield 70, 3) := by decide +kernel
theorem dX5_takesOut_17 : decode cX5_takesOut 17 = .ok (.if_icmp .ge 23, 3) := by decide +kernel
theorem dX5_takesOut_20 : decode cX5_takesOut 20 = .ok (.aload_n 0, 1) := by decide +kernel
theorem dX5_takesOut_21 : decode cX5_takesOut 21 = .ok (.getfield 7, 3) := by decide +kernel
theorem dX5_takesOut_24 : decode cX5_takesOut 24 = .ok (.iload_n 2, 1) := by decide +kernel
theorem dX5_takesOut_25 : decode cX5_takesOut 25 = .ok (.aload_n 0, 1) := by decide +kernel
theorem dX5_takesOut_26 : decode cX5_takesOut 26 = .ok (.getfield 7, 3) := by decide +kernel
theorem dX5_takesOut_29 : decode cX5_takesOut 29 = .ok (.iload_n 2, 1) := by decide +kernel
theorem dX5_takesOut_30 : decode cX5_takesOut 30 = .ok (.iconst 1, 1) := by decide +kernel
theorem dX5_takesOut_31 : decode cX5_takesOut 31 = .ok (.iadd, 1) := by decide +kernel
theorem dX5_takesOut_32 : decode cX5_takesOut 32 = .ok (.iaload, 1) := by decide +kernel
theorem dX5_takesOut_33 : decode cX5_takesOut 33 = .ok (.iastore, 1) := by decide +kernel
theorem dX5_takesOut_34 : decode cX5_takesOut 34 = .ok (.iinc 2 1, 3) := by decide +kernel
theorem dX5_takesOut_37 : decode cX5_takesOut 37 = .ok (.goto (-25), 3) := by decide +kernel
theorem dX5_takesOut_40 : decode cX5_takesOut 40 = .ok (.return_, 1) := by decide +kernel
theorem dX5_remove_0 : decode cX5_remove 0 = .ok (.aload_n 0, 1) := by decide +kernel
theorem dX5_remove_1 : decode cX5_remove 1 = .ok (.aload_n 0, 1) := by decide +kernel
theorem dX5_remove_2 : decode cX5_remove 2 = .ok (.iload_n 1, 1) := by decide +kernel
theorem dX5_remove_3 : decode cX5_remove 3 = .ok (.invokevirtual 105, 3) := by decide +kernel
theorem dX5_remove_6 : decode cX5_remove 6 = .ok (.iconst 1, 1) := by decide +kernel
theorem dX5_remove_7 : decode cX5_remove 7 = .ok (.iconst 1, 1) := by decide +kernel
theorem dX5_remove_8 : decode cX5_remove 8 = .ok (.invokevirtual 101, 3) := by decide +kernel
theorem dX5_remove_11 : decode cX5_remove 11 = .ok (.ifCond .ne 5, 3) := by decide +kernel
theorem dX5_remove_14 : decode cX5_remove 14 = .ok (.iconst 0, 1) := by decide +kernel
theorem dX5_remove_15 : decode cX5_remove 15 = .ok (.ireturn, 1) := by decide +kernel
theorem dX5_remove_16 : decode cX5_remove 16 = .ok (.aload_n 0, 1) := by decide +kernel
theorem dX5_remove_17 : decode cX5_remove 17 = .ok (.iload_n 1, 1) := by decide +kernel
theorem dX5_remove_18 : decode cX5_remove 18 = .ok (.invokevirtual 109, 3) := by decide +kernel
theorem dX5_remove_21 : decode cX5_remove 21 = .ok (.aload_n 0, 1) := by decide +kernel
theorem dX5_remove_22 : decode cX5_remove 22 = .ok (.getfield 70, 3) := by decide +kernel
theorem dX5_remove_25 : decode cX5_remove 25 = .ok (.ireturn, 1) := by decide +kernel
theorem dX5_move_0 : decode cX5_move 0 = .ok (.aload_n 0, 1) := by decide +kernel
theorem dX5_move_1 : decode cX5_move 1 = .ok (.aload_n 0, 1) := by decide +kernel
theorem dX5_move_2 : decode cX5_move 2 = .ok (.iload_n 1, 1) := by decide +kernel
theorem dX5_move_3 : decode cX5_move 3 = .ok (.invokevirtual 105, 3) := by decide +kernel
theorem dX5_move_6 : decode cX5_move 6 = .ok (.ifCond .eq 15, 3) := by decide +kernel
theorem dX5_move_9 : decode cX5_move 9 = .ok (.aload_n 0, 1) := by decide +kernel
theorem dX5_move_10 : decode cX5_move 10 = .ok (.iload_n 2, 1) := by decide +kernel
theorem dX5_move_11 : decode cX5_move 11 = .ok (.invokevirtual 105, 3) := by decide +kernel
theorem dX5_move_14 : decode cX5_move 14 = .ok (.ifCond .eq 7, 3) := by decide +kernel
theorem dX5_move_17 : decode cX5_move 17 = .ok (.iconst 1, 1) := by decide +kernel
theorem dX5_move_18 : decode cX5_move 18 = .ok (.goto 4, 3) := by decide +kernel
theorem dX5_move_21 : decode cX5_move 21 = .ok (.iconst 0, 1) := by decide +kernel
theorem dX5_move_22 : decode cX5_move 22 = .ok (.iconst 1, 1) := by decide +kernel
theorem dX5_move_23 : decode cX5_move 23 = .ok (.iconst 1, 1) := by decide +kernel
theorem dX5_move_24 : decode cX5_move 24 = .ok (.invokevirtual 101, 3) := by decide +kernel
theorem dX5_move_27 : decode cX5_move 27 = .ok (.ifCond .ne 4, 3) := by decide +kernel
theorem dX5_move_30 : decode cX5_move 30 = .ok (.return_, 1) := by decide +kernel
theorem dX5_move_31 : decode cX5_move 31 = .ok (.aload_n 0, 1) := by decide +kernel
theorem dX5_move_32 : decode cX5_move 32 = .ok (.getfield 7, 3) := by decide +kernel
theorem dX5_move_35 : decode cX5_move 35 = .ok (.iload_n 1, 1) := by decide +kernel
theorem dX5_move_36 : decode cX5_move 36 = .ok (.iaload, 1) := by decide +kernel
theorem dX5_move_37 : decode cX5_move 37 = .ok (.istore_n 3, 1) := by decide +kernel
theorem dX5_move_38 : decode cX5_move 38 = .ok (.aload_n 0, 1) := by decide +kernel
theorem dX5_move_39 : decode cX5_move 39 = .ok (.iload_n 1, 1) := by decide +kernel
theorem dX5_move_40 : decode cX5_move 40 = .ok (.invokevirtual 109, 3) := by decide +kernel
theorem dX5_move_43 : decode cX5_move 43 = .ok (.aload_n 0, 1) := by decide +kernel
theorem dX5_move_44 : decode cX5_move 44 = .ok (.getfield 70, 3) := by decide +kernel
theorem dX5_move_47 : decode cX5_move 47 = .ok (.istore 4, 2) := by decide +kernel
theorem dX5_move_49 : decode cX5_move 49 = .ok (.iload 4, 2) := by decide +kernel
theorem dX5_move_51 : decode cX5_move 51 = .ok (.iload_n 2, 1) := by decide +kernel
theorem dX5_move_52 : decode cX5_move 52 = .ok (.if_icmp .le 25, 3) := by decide +kernel
theorem dX5_move_55 : decode cX5_move 55 = .ok (.aload_n 0, 1) := by decide +kernel
theorem dX5_move_56 : decode cX5_move 56 = .ok (.getfield 7, 3) := by decide +kernel
theorem dX5_move_59 : decode cX5_move 59 = .ok (.iload 4, 2) := by decide +kernel
theorem dX5_move_61 : decode cX5_move 61 = .ok (.aload_n 0, 1) := by decide +kernel
theorem dX5_move_62 : decode cX5_move 62 = .ok (.getfield 7, 3) := by decide +kernel
theorem dX5_move_65 : decode cX5_move 65 = .ok (.iload 4, 2) := by decide +kernel
theorem dX5_move_67 : decode cX5_move 67 = .ok (.iconst 1, 1) := by decide +kernel
theorem dX5_move_68 : decode cX5_move 68 = .ok (.isub, 1) := by decide +kernel
theorem dX5_move_69 : decode cX5_move 69 = .ok (.iaload, 1) := by decide +kernel
theorem dX5_move_70 : decode cX5_move 70 = .ok (.iastore, 1) := by decide +kernel
theorem dX5_move_71 : decode cX5_move 71 = .ok (.iinc 4 (-1), 3) := by decide +kernel
theorem dX5_move_74 : decode cX5_move 74 = .ok (.goto (-25), 3) := by decide +kernel
theorem dX5_move_77 : decode cX5_move 77 = .ok (.aload_n 0, 1) := by decide +kernel
theorem dX5_move_78 : decode cX5_move 78 = .ok (.getfield 7, 3) := by decide +kernel
theorem dX5_move_81 : decode cX5_move 81 = .ok (.iload_n 2, 1) := by decide +kernel
theorem dX5_move_82 : decode cX5_move 82 = .ok (.iload_n 3, 1) := by decide +kernel
theorem dX5_move_83 : decode cX5_move 83 = .ok (.iastore, 1) := by decide +kernel
theorem dX5_move_84 : decode cX5_move 84 = .ok (.aload_n 0, 1) := by decide +kernel
theorem dX5_move_85 : decode cX5_move 85 = .ok (.dup, 1) := by decide +kernel
theorem dX5_move_86 : decode cX5_move 86 = .ok (.getfield 70, 3) := by decide +kernel
theorem dX5_move_89 : decode cX5_move 89 = .ok (.iconst 1, 1) := by decide +kernel
theorem dX5_move_90 : decode cX5_move 90 = .ok (.iadd, 1) := by decide +kernel
theorem dX5_move_91 : decode cX5_move 91 = .ok (.putfield 70, 3) := by decide +kernel
theorem dX5_move_94 : decode cX5_move 94 = .ok (.return_, 1) := by decide +kernel
theorem dX5_edits_0 : decode cX5_edits 0 = .ok (.aload_n 0, 1) := by decide +kernel
theorem dX5_edits_1 : decode cX5_edits 1 = .ok (.getfield 13, 3) := by decide +kernel
theorem dX5_edits_4 : decode cX5_edits 4 = .ok (.iload_n 1, 1) := by decide +kernel
theorem dX5_edits_5 : decode cX5_edits 5 = .ok (.iload_n 2, 1) := by decide +kernel
theorem dX5_edits_6 : decode cX5_edits 6 = .ok (.iastore, 1) := by decide +kernel
theorem dX5_edits_7 : decode cX5_edits 7 = .ok (.aload_n 0, 1) := by decide +kernel
theorem dX5_edits_8 : decode cX5_edits 8 = .ok (.getfield 16, 3) := by decide +kernel
theorem dX5_edits_11 : decode cX5_edits 11 = .ok (.iload_n 1, 1) := by decide +kernel
theorem dX5_edits_12 : decode cX5_edits 12 = .ok (.iload_n 3, 1) := by decide +kernel
theorem dX5_edits_13 : decode cX5_edits 13 = .ok (.iastore, 1) := by decide +kernel
theorem dX5_edits_14 : decode cX5_edits 14 = .ok (.aload_n 0, 1) := by decide +kernel
theorem dX5_edits_15 : decode cX5_edits 15 = .ok (.getfield 19, 3) := by decide +kernel
theorem dX5_edits_18 : decode cX5_edits 18 = .ok (.iload_n 1, 1) := by decide +kernel
theorem dX5_edits_19 : decode cX5_edits 19 = .ok (.dup2, 1) := by decide +kernel
theorem dX5_edits_20 : decode cX5_edits 20 = .ok (.iaload, 1) := by decide +kernel
theorem dX5_edits_21 : decode cX5_edits 21 = .ok (.iconst 1, 1) := by decide +kernel
theorem dX5_edits_22 : decode cX5_edits 22 = .ok (.iadd, 1) := by decide +kernel
theorem dX5_edits_23 : decode cX5_edits 23 = .ok (.iastore, 1) := by decide +kernel
theorem dX5_edits_24 : decode cX5_edits 24 = .ok (.aload_n 0, 1) := by decide +kernel
theorem dX5_edits_25 : decode cX5_edits 25 = .ok (.iload_n 1, 1) := by decide +kernel
theorem dX5_edits_26 : decode cX5_edits 26 = .ok (.invokevirtual 112, 3) := by decide +kernel
theorem dX5_edits_29 : decode cX5_edits 29 = .ok (.return_, 1) := by decide +kernel
theorem dX5_edit_0 : decode cX5_edit 0 = .ok (.aload_n 0, 1) := by decide +kernel
theorem dX5_edit_1 : decode cX5_edit 1 = .ok (.aload_n 0, 1) := by decide +kernel
theorem dX5_edit_2 : decode cX5_edit 2 = .ok (.iload_n 1, 1) := by decide +kernel
theorem dX5_edit_3 : decode cX5_edit 3 = .ok (.invokevirtual 105, 3) := by decide +kernel
theorem dX5_edit_6 : decode cX5_edit 6 = .ok (.iload_n 2, 1) := by decide +kernel
theorem dX5_edit_7 : decode cX5_edit 7 = .ok (.iload_n 3, 1) := by decide +kernel
theorem dX5_edit_8 : decode cX5_edit 8 = .ok (.invokestatic 94, 3) := by decide +kernel
theorem dX5_edit_11 : decode cX5_edit 11 = .ok (.iconst 1, 1) := by decide +kernel
theorem dX5_edit_12 : decode cX5_edit 12 = .ok (.invokevirtual 101, 3) := by decide +kernel
theorem dX5_edit_15 : decode cX5_edit 15 = .ok (.ifCond .ne 5, 3) := by decide +kernel
theorem dX5_edit_18 : decode cX5_edit 18 = .ok (.iconst 0, 1) := by decide +kernel
theorem dX5_edit_19 : decode cX5_edit 19 = .ok (.ireturn, 1) := by decide +kernel
theorem dX5_edit_20 : decode cX5_edit 20 = .ok (.aload_n 0, 1) := by decide +kernel
theorem dX5_edit_21 : decode cX5_edit 21 = .ok (.aload_n 0, 1) := by decide +kernel
theorem dX5_edit_22 : decode cX5_edit 22 = .ok (.getfield 7, 3) := by decide +kernel
theorem dX5_edit_25 : decode cX5_edit 25 = .ok (.iload_n 1, 1) := by decide +kernel
theorem dX5_edit_26 : decode cX5_edit 26 = .ok (.iaload, 1) := by decide +kernel
theorem dX5_edit_27 : decode cX5_edit 27 = .ok (.iload_n 2, 1) := by decide +kernel
theorem dX5_edit_28 : decode cX5_edit 28 = .ok (.iload_n 3, 1) := by decide +kernel
theorem dX5_edit_29 : decode cX5_edit 29 = .ok (.invokevirtual 115, 3) := by decide +kernel
theorem dX5_edit_32 : decode cX5_edit 32 = .ok (.aload_n 0, 1) := by decide +kernel
theorem dX5_edit_33 : decode cX5_edit 33 = .ok (.getfield 19, 3) := by decide +kernel
theorem dX5_edit_36 : decode cX5_edit 36 = .ok (.aload_n 0, 1) := by decide +kernel
theorem dX5_edit_37 : decode cX5_edit 37 = .ok (.getfield 7, 3) := by decide +kernel
theorem dX5_edit_40 : decode cX5_edit 40 = .ok (.iload_n 1, 1) := by decide +kernel
theorem dX5_edit_41 : decode cX5_edit 41 = .ok (.iaload, 1) := by decide +kernel
theorem dX5_edit_42 : decode cX5_edit 42 = .ok (.iaload, 1) := by decide +kernel
theorem dX5_edit_43 : decode cX5_edit 43 = .ok (.ireturn, 1) := by decide +kernel
theorem dX5_replace_0 : decode cX5_replace 0 = .ok (.aload_n 0, 1) := by decide +kernel
theorem dX5_replace_1 : decode cX5_replace 1 = .ok (.iload_n 1, 1) := by decide +kernel
theorem dX5_replace_2 : decode cX5_replace 2 = .ok (.invokestatic 119, 3) := by decide +kernel
theorem dX5_replace_5 : decode cX5_replace 5 = .ok (.ifCond .eq 19, 3) := by decide +kernel
theorem dX5_replace_8 : decode cX5_replace 8 = .ok (.iload_n 2, 1) := by decide +kernel
theorem dX5_replace_9 : decode cX5_replace 9 = .ok (.invokestatic 119, 3) := by decide +kernel
theorem dX5_replace_12 : decode cX5_replace 12 = .ok (.ifCond .eq 12, 3) := by decide +kernel
theorem dX5_replace_15 : decode cX5_replace 15 = .ok (.iload_n 1, 1) := by decide +kernel
theorem dX5_replace_16 : decode cX5_replace 16 = .ok (.iload_n 2, 1) := by decide +kernel
theorem dX5_replace_17 : decode cX5_replace 17 = .ok (.if_icmp .eq 7, 3) := by decide +kernel
theorem dX5_replace_20 : decode cX5_replace 20 = .ok (.iconst 1, 1) := by decide +kernel
theorem dX5_replace_21 : decode cX5_replace 21 = .ok (.goto 4, 3) := by decide +kernel
theorem dX5_replace_24 : decode cX5_replace 24 = .ok (.iconst 0, 1) := by decide +kernel
theorem dX5_replace_25 : decode cX5_replace 25 = .ok (.iconst 1, 1) := by decide +kernel
theorem dX5_replace_26 : decode cX5_replace 26 = .ok (.iconst 1, 1) := by decide +kernel
theorem dX5_replace_27 : decode cX5_replace 27 = .ok (.invokevirtual 101, 3) := by decide +kernel
theorem dX5_replace_30 : decode cX5_replace 30 = .ok (.ifCond .ne 5, 3) := by decide +kernel
theorem dX5_replace_33 : decode cX5_replace 33 = .ok (.iconst 0, 1) := by decide +kernel
theorem dX5_replace_34 : decode cX5_replace 34 = .ok (.ireturn, 1) := by decide +kernel
theorem dX5_replace_35 : decode cX5_replace 35 = .ok (.iconst 0, 1) := by decide +kernel
theorem dX5_replace_36 : decode cX5_replace 36 = .ok (.istore_n 3, 1) := by decide +kernel
theorem dX5_replace_37 : decode cX5_replace 37 = .ok (.iconst 0, 1) := by decide +kernel
theorem dX5_replace_38 : decode cX5_replace 38 = .ok (.istore 4, 2) := by decide +kernel
theorem dX5_replace_40 : decode cX5_replace 40 = .ok (.iload 4, 2) := by decide +kernel
theorem dX5_replace_42 : decode cX5_replace 42 = .ok (.aload_n 0, 1) := by decide +kernel
theorem dX5_replace_43 : decode cX5_replace 43 = .ok (.getfield 70, 3) := by decide +kernel
theorem dX5_replace_46 : decode cX5_replace 46 = .ok (.if_icmp .ge 65, 3) := by decide +kernel
theorem dX5_replace_49 : decode cX5_replace 49 = .ok (.aload_n 0, 1) := by decide +kernel
theorem dX5_replace_50 : decode cX5_replace 50 = .ok (.getfield 7, 3) := by decide +kernel
theorem dX5_replace_53 : decode cX5_replace 53 = .ok (.iload 4, 2) := by decide +kernel
theorem dX5_replace_55 : decode cX5_replace 55 = .ok (.iaload, 1) := by decide +kernel
theorem dX5_replace_56 : decode cX5_replace 56 = .ok (.istore 5, 2) := by decide +kernel
theorem dX5_replace_58 : decode cX5_replace 58 = .ok (.aload_n 0, 1) := by decide +kernel
theorem dX5_replace_59 : decode cX5_replace 59 = .ok (.getfield 13, 3) := by decide +kernel
theorem dX5_replace_62 : decode cX5_replace 62 = .ok (.iload 5, 2) := by decide +kernel
theorem dX5_replace_64 : decode cX5_replace 64 = .ok (.iaload, 1) := by decide +kernel
theorem dX5_replace_65 : decode cX5_replace 65 = .ok (.iload_n 1, 1) := by decide +kernel
theorem dX5_replace_66 : decode cX5_replace 66 = .ok (.invokestatic 122, 3) := by decide +kernel
theorem dX5_replace_69 : decode cX5_replace 69 = .ok (.ifCond .eq 36, 3) := by decide +kernel
theorem dX5_replace_72 : decode cX5_replace 72 = .ok (.aload_n 0, 1) := by decide +kernel
theorem dX5_replace_73 : decode cX5_replace 73 = .ok (.iload 5, 2) := by decide +kernel
theorem dX5_replace_75 : decode cX5_replace 75 = .ok (.aload_n 0, 1) := by decide +kernel
theorem dX5_replace_76 : decode cX5_replace 76 = .ok (.getfield 13, 3) := by decide +kernel
theorem dX5_replace_79 : decode cX5_replace 79 = .ok (.iload 5, 2) := by decide +kernel
theorem dX5_replace_81 : decode cX5_replace 81 = .ok (.iaload, 1) := by decide +kernel
theorem dX5_replace_82 : decode cX5_replace 82 = .ok (.iconst 1, 1) := by decide +kernel
theorem dX5_replace_83 : decode cX5_replace 83 = .ok (.iload_n 1, 1) := by decide +kernel
theorem dX5_replace_84 : decode cX5_replace 84 = .ok (.ishl, 1) := by decide +kernel
theorem dX5_replace_85 : decode cX5_replace 85 = .ok (.iconst (-1), 1) := by decide +kernel
theorem dX5_replace_86 : decode cX5_replace 86 = .ok (.ixor, 1) := by decide +kernel
theorem dX5_replace_87 : decode cX5_replace 87 = .ok (.iand, 1) := by decide +kernel
theorem dX5_replace_88 : decode cX5_replace 88 = .ok (.iconst 1, 1) := by decide +kernel
theorem dX5_replace_89 : decode cX5_replace 89 = .ok (.iload_n 2, 1) := by decide +kernel
theorem dX5_replace_90 : decode cX5_replace 90 = .ok (.ishl, 1) := by decide +kernel
theorem dX5_replace_91 : decode cX5_replace 91 = .ok (.ior, 1) := by decide +kernel
theorem dX5_replace_92 : decode cX5_replace 92 = .ok (.aload_n 0, 1) := by decide +kernel
theorem dX5_replace_93 : decode cX5_replace 93 = .ok (.getfield 16, 3) := by decide +kernel
theorem dX5_replace_96 : decode cX5_replace 96 = .ok (.iload 5, 2) := by decide +kernel
theorem dX5_replace_98 : decode cX5_replace 98 = .ok (.iaload, 1) := by decide +kernel
theorem dX5_replace_99 : decode cX5_replace 99 = .ok (.invokevirtual 115, 3) := by decide +kernel
theorem dX5_replace_102 : decode cX5_replace 102 = .ok (.iinc 3 1, 3) := by decide +kernel
theorem dX5_replace_105 : decode cX5_replace 105 = .ok (.iinc 4 1, 3) := by decide +kernel
theorem dX5_replace_108 : decode cX5_replace 108 = .ok (.goto (-68), 3) := by decide +kernel
theorem dX5_replace_111 : decode cX5_replace 111 = .ok (.iload_n 3, 1) := by decide +kernel
theorem dX5_replace_112 : decode cX5_replace 112 = .ok (.ireturn, 1) := by decide +kernel
theorem dX5_pages_0 : decode cX5_pages 0 = .ok (.aload_n 0, 1) := by decide +kernel
theorem dX5_pages_1 : decode cX5_pages 1 = .ok (.aload_n 0, 1) := by decide +kernel
theorem dX5_pages_2 : decode cX5_pages 2 = .ok (.getfield 70, 3) := by decide +kernel
theorem dX5_pages_5 : decode cX5_pages 5 = .ok (.invokevirtual 125, 3) := by decide +kernel
theorem dX5_pages_8 : decode cX5_pages 8 = .ok (.ireturn, 1) := by decide +kernel
theorem dX5_edition_0 : decode cX5_edition 0 = .ok (.aload_n 0, 1) := by decide +kernel
theorem dX5_edition_1 : decode cX5_edition 1 = .ok (.aload_n 0, 1) := by decide +kernel
theorem dX5_edition_2 : decode cX5_edition 2 = .ok (.iload_n 1, 1) := by decide +kernel
theorem dX5_edition_3 : decode cX5_edition 3 = .ok (.invokevirtual 105, 3) := by decide +kernel
theorem dX5_edition_6 : decode cX5_edition 6 = .ok (.iconst 1, 1) := by decide +kernel
theorem dX5_edition_7 : decode cX5_edition 7 = .ok (.iconst 1, 1) := by decide +kernel
theorem dX5_edition_8 : decode cX5_edition 8 = .ok (.invokevirtual 101, 3) := by decide +kernel
theorem dX5_edition_11 : decode cX5_edition 11 = .ok (.ifCond .eq 17, 3) := by decide +kernel
theorem dX5_edition_14 : decode cX5_edition 14 = .ok (.aload_n 0, 1) := by decide +kernel
theorem dX5_edition_15 : decode cX5_edition 15 = .ok (.getfield 19, 3) := by decide +kernel
theorem dX5_edition_18 : decode cX5_edition 18 = .ok (.aload_n 0, 1) := by decide +kernel
theorem dX5_edition_19 : decode cX5_edition 19 = .ok (.getfield 7, 3) := by decide +kernel
theorem dX5_edition_22 : decode cX5_edition 22 = .ok (.iload_n 1, 1) := by decide +kernel
theorem dX5_edition_23 : decode cX5_edition 23 = .ok (.iaload, 1) := by decide +kernel
theorem dX5_edition_24 : decode cX5_edition 24 = .ok (.iaload, 1) := by decide +kernel
theorem dX5_edition_25 : decode cX5_edition 25 = .ok (.goto 4, 3) := by decide +kernel
theorem dX5_edition_28 : decode cX5_edition 28 = .ok (.iconst 0, 1) := by decide +kernel
theorem dX5_edition_29 : decode cX5_edition 29 = .ok (.ireturn, 1) := by decide +kernel
theorem dX5_setFolds_0 : decode cX5_setFolds 0 = .ok (.iload_n 1, 1) := by decide +kernel
theorem dX5_setFolds_1 : decode cX5_setFolds 1 = .ok (.iconst 1, 1) := by decide +kernel
theorem dX5_setFolds_2 : decode cX5_setFolds 2 = .ok (.iconst 4, 1) := by decide +kernel
theorem dX5_setFolds_3 : decode cX5_setFolds 3 = .ok (.invokestatic 73, 3) := by decide +kernel
theorem dX5_setFolds_6 : decode cX5_setFolds 6 = .ok (.istore_n 3, 1) := by decide +kernel
theorem dX5_setFolds_7 : decode cX5_setFolds 7 = .ok (.aload_n 0, 1) := by decide +kernel
theorem dX5_setFolds_8 : decode cX5_setFolds 8 = .ok (.iload_n 3, 1) := by decide +kernel
theorem dX5_setFolds_9 : decode cX5_setFolds 9 = .ok (.ifCond .eq 30, 3) := by decide +kernel
theorem dX5_setFolds_12 : decode cX5_setFolds 12 = .ok (.iload_n 2, 1) := by decide +kernel
theorem dX5_setFolds_13 : decode cX5_setFolds 13 = .ok (.iconst 0, 1) := by decide +kernel
theorem dX5_setFolds_14 : decode cX5_setFolds 14 = .ok (.iconst 1, 1) := by decide +kernel
theorem dX5_setFolds_15 : decode cX5_setFolds 15 = .ok (.iconst 2, 1) := by decide +kernel
theorem dX5_setFolds_16 : decode cX5_setFolds 16 = .ok (.iload_n 3, 1) := by decide +kernel
theorem dX5_setFolds_17 : decode cX5_setFolds 17 = .ok (.ifCond .eq 7, 3) := by decide +kernel
theorem dX5_setFolds_20 : decode cX5_setFolds 20 = .ok (.iload_n 1, 1) := by decide +kernel
theorem dX5_setFolds_21 : decode cX5_setFolds 21 = .ok (.goto 4, 3) := by decide +kernel
theorem dX5_setFolds_24 : decode cX5_setFolds 24 = .ok (.iconst 1, 1) := by decide +kernel
theorem dX5_setFolds_25 : decode cX5_setFolds 25 = .ok (.imul, 1) := by decide +kernel
theorem dX5_setFolds_26 : decode cX5_setFolds 26 = .ok (.ishl, 1) := by decide +kernel
theorem dX5_setFolds_27 : decode cX5_setFolds 27 = .ok (.iconst 1, 1) := by decide +kernel
theorem dX5_setFolds_28 : decode cX5_setFolds 28 = .ok (.isub, 1) := by decide +kernel
theorem dX5_setFolds_29 : decode cX5_setFolds 29 = .ok (.invokestatic 73, 3) := by decide +kernel
theorem dX5_setFolds_32 : decode cX5_setFolds 32 = .ok (.ifCond .eq 7, 3) := by decide +kernel
theorem dX5_setFolds_35 : decode cX5_setFolds 35 = .ok (.iconst 1, 1) := by decide +kernel
theorem dX5_setFolds_36 : decode cX5_setFolds 36 = .ok (.goto 4, 3) := by decide +kernel
theorem dX5_setFolds_39 : decode cX5_setFolds 39 = .ok (.iconst 0, 1) := by decide +kernel
theorem dX5_setFolds_40 : decode cX5_setFolds 40 = .ok (.iconst 1, 1) := by decide +kernel
theorem dX5_setFolds_41 : decode cX5_setFolds 41 = .ok (.iconst 1, 1) := by decide +kernel
theorem dX5_setFolds_42 : decode cX5_setFolds 42 = .ok (.invokevirtual 101, 3) := by decide +kernel
theorem dX5_setFolds_45 : decode cX5_setFolds 45 = .ok (.ifCond .ne 5, 3) := by decide +kernel
theorem dX5_setFolds_48 : decode cX5_setFolds 48 = .ok (.iconst 0, 1) := by decide +kernel
theorem dX5_setFolds_49 : decode cX5_setFolds 49 = .ok (.ireturn, 1) := by decide +kernel
theorem dX5_setFolds_50 : decode cX5_setFolds 50 = .ok (.aload_n 0, 1) := by decide +kernel
theorem dX5_setFolds_51 : decode cX5_setFolds 51 = .ok (.iload_n 1, 1) := by decide +kernel
theorem dX5_setFolds_52 : decode cX5_setFolds 52 = .ok (.iload_n 2, 1) := by decide +kernel
theorem dX5_setFolds_53 : decode cX5_setFolds 53 = .ok (.invokevirtual 62, 3) := by decide +kernel
theorem dX5_setFolds_56 : decode cX5_setFolds 56 = .ok (.aload_n 0, 1) := by decide +kernel
theorem dX5_setFolds_57 : decode cX5_setFolds 57 = .ok (.invokevirtual 129, 3) := by decide +kernel
theorem dX5_setFolds_60 : decode cX5_setFolds 60 = .ok (.ireturn, 1) := by decide +kernel
theorem dX5_sheets_0 : decode cX5_sheets 0 = .ok (.aload_n 0, 1) := by decide +kernel
theorem dX5_sheets_1 : decode cX5_sheets 1 = .ok (.aload_n 0, 1) := by decide +kernel
theorem dX5_sheets_2 : decode cX5_sheets 2 = .ok (.invokevirtual 129, 3) := by decide +kernel
theorem dX5_sheets_5 : decode cX5_sheets 5 = .ok (.invokevirtual 125, 3) := by decide +kernel
theorem dX5_sheets_8 : decode cX5_sheets 8 = .ok (.ireturn, 1) := by decide +kernel
theorem dX5_rows_0 : decode cX5_rows 0 = .ok (.aload_n 0, 1) := by decide +kernel
theorem dX5_rows_1 : decode cX5_rows 1 = .ok (.aload_n 0, 1) := by decide +kernel
theorem dX5_rows_2 : decode cX5_rows 2 = .ok (.getfield 80, 3) := by decide +kernel
theorem dX5_rows_5 : decode cX5_rows 5 = .ok (.invokevirtual 125, 3) := by decide +kernel
theorem dX5_rows_8 : decode cX5_rows 8 = .ok (.ireturn, 1) := by decide +kernel
theorem dX5_columns_0 : decode cX5_columns 0 = .ok (.aload_n 0, 1) := by decide +kernel
theorem dX5_columns_1 : decode cX5_columns 1 = .ok (.aload_n 0, 1) := by decide +kernel
theorem dX5_columns_2 : decode cX5_columns 2 = .ok (.getfield 83, 3) := by decide +kernel
theorem dX5_columns_5 : decode cX5_columns 5 = .ok (.invokevirtual 125, 3) := by decide +kernel
theorem dX5_columns_8 : decode cX5_columns 8 = .ok (.ireturn, 1) := by decide +kernel
theorem dX5_isSheet_0 : decode cX5_isSheet 0 = .ok (.iload_n 1, 1) := by decide +kernel
theorem dX5_isSheet_1 : decode cX5_isSheet 1 = .ok (.iconst 0, 1) := by decide +kernel
theorem dX5_isSheet_2 : decode cX5_isSheet 2 = .ok (.aload_n 0, 1) := by decide +kernel
theorem dX5_isSheet_3 : decode cX5_isSheet 3 = .ok (.invokevirtual 129, 3) := by decide +kernel
theorem dX5_isSheet_6 : decode cX5_isSheet 6 = .ok (.iconst 1, 1) := by decide +kernel
theorem dX5_isSheet_7 : decode cX5_isSheet 7 = .ok (.isub, 1) := by decide +kernel
theorem dX5_isSheet_8 : decode cX5_isSheet 8 = .ok (.invokestatic 73, 3) := by decide +kernel
theorem dX5_isSheet_11 : decode cX5_isSheet 11 = .ok (.ireturn, 1) := by decide +kernel
theorem dX5_pageAt_0 : decode cX5_pageAt 0 = .ok (.aload_n 0, 1) := by decide +kernel
theorem dX5_pageAt_1 : decode cX5_pageAt 1 = .ok (.iload_n 1, 1) := by decide +kernel
theorem dX5_pageAt_2 : decode cX5_pageAt 2 = .ok (.invokevirtual 132, 3) := by decide +kernel
theorem dX5_pageAt_5 : decode cX5_pageAt 5 = .ok (.ifCond .eq 36, 3) := by decide +kernel
theorem dX5_pageAt_8 : decode cX5_pageAt 8 = .ok (.iload_n 3, 1) := by decide +kernel
theorem dX5_pageAt_9 : decode cX5_pageAt 9 = .ok (.iconst 0, 1) := by decide +kernel
theorem dX5_pageAt_10 : decode cX5_pageAt 10 = .ok (.aload_n 0, 1) := by decide +kernel
theorem dX5_pageAt_11 : decode cX5_pageAt 11 = .ok (.getfield 80, 3) := by decide +kernel
theorem dX5_pageAt_14 : decode cX5_pageAt 14 = .ok (.iconst 1, 1) := by decide +kernel
theorem dX5_pageAt_15 : decode cX5_pageAt 15 = .ok (.isub, 1) := by decide +kernel
theorem dX5_pageAt_16 : decode cX5_pageAt 16 = .ok (.invokestatic 73, 3) := by decide +kernel
theorem dX5_pageAt_19 : decode cX5_pageAt 19 = .ok (.ifCond .eq 22, 3) := by decide +kernel
theorem dX5_pageAt_22 : decode cX5_pageAt 22 = .ok (.iload 4, 2) := by decide +kernel
theorem dX5_pageAt_24 : decode cX5_pageAt 24 = .ok (.iconst 0, 1) := by decide +kernel
theorem dX5_pageAt_25 : decode cX5_pageAt 25 = .ok (.aload_n 0, 1) := by decide +kernel
theorem dX5_pageAt_26 : decode cX5_pageAt 26 = .ok (.getfield 83, 3) := by decide +kernel
theorem dX5_pageAt_29 : decode cX5_pageAt 29 = .ok (.iconst 1, 1) := by decide +kernel
theorem dX5_pageAt_30 : decode cX5_pageAt 30 = .ok (.isub, 1) := by decide +kernel
theorem dX5_pageAt_31 : decode cX5_pageAt 31 = .ok (.invokestatic 73, 3) := by decide +kernel
theorem dX5_pageAt_34 : decode cX5_pageAt 34 = .ok (.ifCond .eq 7, 3) := by decide +kernel
theorem dX5_pageAt_37 : decode cX5_pageAt 37 = .ok (.iconst 1, 1) := by decide +kernel
theorem dX5_pageAt_38 : decode cX5_pageAt 38 = .ok (.goto 4, 3) := by decide +kernel
theorem dX5_pageAt_41 : decode cX5_pageAt 41 = .ok (.iconst 0, 1) := by decide +kernel
theorem dX5_pageAt_42 : decode cX5_pageAt 42 = .ok (.istore 5, 2) := by decide +kernel
theorem dX5_pageAt_44 : decode cX5_pageAt 44 = .ok (.aload_n 0, 1) := by decide +kernel
theorem dX5_pageAt_45 : decode cX5_pageAt 45 = .ok (.iload 5, 2) := by decide +kernel
theorem dX5_pageAt_47 : decode cX5_pageAt 47 = .ok (.iload_n 2, 1) := by decide +kernel
theorem dX5_pageAt_48 : decode cX5_pageAt 48 = .ok (.invokestatic 135, 3) := by decide +kernel
theorem dX5_pageAt_51 : decode cX5_pageAt 51 = .ok (.iconst 1, 1) := by decide +kernel
theorem dX5_pageAt_52 : decode cX5_pageAt 52 = .ok (.invokevirtual 101, 3) := by decide +kernel
theorem dX5_pageAt_55 : decode cX5_pageAt 55 = .ok (.ifCond .eq 21, 3) := by decide +kernel
theorem dX5_pageAt_58 : decode cX5_pageAt 58 = .ok (.aload_n 0, 1) := by decide +kernel
theorem dX5_pageAt_59 : decode cX5_pageAt 59 = .ok (.iload_n 1, 1) := by decide +kernel
theorem dX5_pageAt_60 : decode cX5_pageAt 60 = .ok (.iload_n 2, 1) := by decide +kernel
theorem dX5_pageAt_61 : decode cX5_pageAt 61 = .ok (.aload_n 0, 1) := by decide +kernel
theorem dX5_pageAt_62 : decode cX5_pageAt 62 = .ok (.getfield 83, 3) := by decide +kernel
theorem dX5_pageAt_65 : decode cX5_pageAt 65 = .ok (.iload_n 3, 1) := by decide +kernel
theorem dX5_pageAt_66 : decode cX5_pageAt 66 = .ok (.imul, 1) := by decide +kernel
theorem dX5_pageAt_67 : decode cX5_pageAt 67 = .ok (.iload 4, 2) := by decide +kernel
theorem dX5_pageAt_69 : decode cX5_pageAt 69 = .ok (.iadd, 1) := by decide +kernel
theorem dX5_pageAt_70 : decode cX5_pageAt 70 = .ok (.invokevirtual 138, 3) := by decide +kernel
theorem dX5_pageAt_73 : decode cX5_pageAt 73 = .ok (.goto 4, 3) := by decide +kernel
theorem dX5_pageAt_76 : decode cX5_pageAt 76 = .ok (.iconst 0, 1) := by decide +kernel
theorem dX5_pageAt_77 : decode cX5_pageAt 77 = .ok (.ireturn, 1) := by decide +kernel
theorem dX5_pageByRule_0 : decode cX5_pageByRule 0 = .ok (.aload_n 0, 1) := by decide +kernel
theorem dX5_pageByRule_1 : decode cX5_pageByRule 1 = .ok (.iload_n 1, 1) := by decide +kernel
theorem dX5_pageByRule_2 : decode cX5_pageByRule 2 = .ok (.iload_n 2, 1) := by decide +kernel
theorem dX5_pageByRule_3 : decode cX5_pageByRule 3 = .ok (.iload_n 3, 1) := by decide +kernel
theorem dX5_pageByRule_4 : decode cX5_pageByRule 4 = .ok (.iload 4, 2) := by decide +kernel
theorem dX5_pageByRule_6 : decode cX5_pageByRule 6 = .ok (.invokevirtual 142, 3) := by decide +kernel
theorem dX5_pageByRule_9 : decode cX5_pageByRule 9 = .ok (.ireturn, 1) := by decide +kernel
theorem dX5_leaf_0 : decode cX5_leaf 0 = .ok (.iload_n 1, 1) := by decide +kernel
theorem dX5_leaf_1 : decode cX5_leaf 1 = .ok (.iconst 2, 1) := by decide +kernel
theorem dX5_leaf_2 : decode cX5_leaf 2 = .ok (.aload_n 0, 1) := by decide +kernel
theorem dX5_leaf_3 : decode cX5_leaf 3 = .ok (.invokevirtual 90, 3) := by decide +kernel
theorem dX5_leaf_6 : decode cX5_leaf 6 = .ok (.imul, 1) := by decide +kernel
theorem dX5_leaf_7 : decode cX5_leaf 7 = .ok (.idiv, 1) := by decide +kernel
theorem dX5_leaf_8 : decode cX5_leaf 8 = .ok (.istore_n 2, 1) := by decide +kernel
theorem dX5_leaf_9 : decode cX5_leaf 9 = .ok (.iconst (-1), 1) := by decide +kernel
theorem dX5_leaf_10 : decode cX5_leaf 10 = .ok (.istore_n 3, 1) := by decide +kernel
theorem dX5_leaf_11 : decode cX5_leaf 11 = .ok (.iconst 0, 1) := by decide +kernel
theorem dX5_leaf_12 : decode cX5_leaf 12 = .ok (.istore 4, 2) := by decide +kernel
theorem dX5_leaf_14 : decode cX5_leaf 14 = .ok (.iload 4, 2) := by decide +kernel
theorem dX5_leaf_16 : decode cX5_leaf 16 = .ok (.iconst 2, 1) := by decide +kernel
theorem dX5_leaf_17 : decode cX5_leaf 17 = .ok (.aload_n 0, 1) := by decide +kernel
theorem dX5_leaf_18 : decode cX5_leaf 18 = .ok (.invokevirtual 90, 3) := by decide +kernel
theorem dX5_leaf_21 : decode cX5_leaf 21 = .ok (.imul, 1) := by decide +kernel
theorem dX5_leaf_22 : decode cX5_leaf 22 = .ok (.if_icmp .ge 43, 3) := by decide +kernel
theorem dX5_leaf_25 : decode cX5_leaf 25 = .ok (.aload_n 0, 1) := by decide +kernel
theorem dX5_leaf_26 : decode cX5_leaf 26 = .ok (.iload_n 2, 1) := by decide +kernel
theorem dX5_leaf_27 : decode cX5_leaf 27 = .ok (.iload 4, 2) := by decide +kernel
theorem dX5_leaf_29 : decode cX5_leaf 29 = .ok (.iconst 2, 1) := by decide +kernel
theorem dX5_leaf_30 : decode cX5_leaf 30 = .ok (.irem, 1) := by decide +kernel
theorem dX5_leaf_31 : decode cX5_leaf 31 = .ok (.iload 4, 2) := by decide +kernel
theorem dX5_leaf_33 : decode cX5_leaf 33 = .ok (.iconst 2, 1) := by decide +kernel
theorem dX5_leaf_34 : decode cX5_leaf 34 = .ok (.idiv, 1) := by decide +kernel
theorem dX5_leaf_35 : decode cX5_leaf 35 = .ok (.invokevirtual 138, 3) := by decide +kernel
theorem dX5_leaf_38 : decode cX5_leaf 38 = .ok (.iload_n 1, 1) := by decide +kernel
theorem dX5_leaf_39 : decode cX5_leaf 39 = .ok (.if_icmp .ne 18, 3) := by decide +kernel
theorem dX5_leaf_42 : decode cX5_leaf 42 = .ok (.bipush 16, 2) := by decide +kernel
theorem dX5_leaf_44 : decode cX5_leaf 44 = .ok (.iload 4, 2) := by decide +kernel
theorem dX5_leaf_46 : decode cX5_leaf 46 = .ok (.iconst 2, 1) := by decide +kernel
theorem dX5_leaf_47 : decode cX5_leaf 47 = .ok (.irem, 1) := by decide +kernel
theorem dX5_leaf_48 : decode cX5_leaf 48 = .ok (.imul, 1) := by decide +kernel
theorem dX5_leaf_49 : decode cX5_leaf 49 = .ok (.iload 4, 2) := by decide +kernel
theorem dX5_leaf_51 : decode cX5_leaf 51 = .ok (.iconst 2, 1) := by decide +kernel
theorem dX5_leaf_52 : decode cX5_leaf 52 = .ok (.idiv, 1) := by decide +kernel
theorem dX5_leaf_53 : decode cX5_leaf 53 = .ok (.iadd, 1) := by decide +kernel
theorem dX5_leaf_54 : decode cX5_leaf 54 = .ok (.goto 4, 3) := by decide +kernel
theorem dX5_leaf_57 : decode cX5_leaf 57 = .ok (.iload_n 3, 1) := by decide +kernel
theorem dX5_leaf_58 : decode cX5_leaf 58 = .ok (.istore_n 3, 1) := by decide +kernel
theorem dX5_leaf_59 : decode cX5_leaf 59 = .ok (.iinc 4 1, 3) := by decide +kernel
theorem dX5_leaf_62 : decode cX5_leaf 62 = .ok (.goto (-48), 3) := by decide +kernel
theorem dX5_leaf_65 : decode cX5_leaf 65 = .ok (.iload_n 3, 1) := by decide +kernel
theorem dX5_leaf_66 : decode cX5_leaf 66 = .ok (.ireturn, 1) := by decide +kernel
theorem dX5_leafOf_0 : decode cX5_leafOf 0 = .ok (.aload_n 0, 1) := by decide +kernel
theorem dX5_leafOf_1 : decode cX5_leafOf 1 = .ok (.aload_n 0, 1) := by decide +kernel
theorem dX5_leafOf_2 : decode cX5_leafOf 2 = .ok (.iload_n 1, 1) := by decide +kernel
theorem dX5_leafOf_3 : decode cX5_leafOf 3 = .ok (.invokevirtual 105, 3) := by decide +kernel
theorem dX5_leafOf_6 : decode cX5_leafOf 6 = .ok (.iconst 1, 1) := by decide +kernel
theorem dX5_leafOf_7 : decode cX5_leafOf 7 = .ok (.iconst 1, 1) := by decide +kernel
theorem dX5_leafOf_8 : decode cX5_leafOf 8 = .ok (.invokevirtual 101, 3) := by decide +kernel
theorem dX5_leafOf_11 : decode cX5_leafOf 11 = .ok (.ifCond .eq 11, 3) := by decide +kernel
theorem dX5_leafOf_14 : decode cX5_leafOf 14 = .ok (.aload_n 0, 1) := by decide +kernel
theorem dX5_leafOf_15 : decode cX5_leafOf 15 = .ok (.iload_n 1, 1) := by decide +kernel
theorem dX5_leafOf_16 : decode cX5_leafOf 16 = .ok (.invokevirtual 146, 3) := by decide +kernel
theorem dX5_leafOf_19 : decode cX5_leafOf 19 = .ok (.goto 4, 3) := by decide +kernel
theorem dX5_leafOf_22 : decode cX5_leafOf 22 = .ok (.iconst 0, 1) := by decide +kernel
theorem dX5_leafOf_23 : decode cX5_leafOf 23 = .ok (.ireturn, 1) := by decide +kernel
theorem dX5_isTurned_0 : decode cX5_isTurned 0 = .ok (.aload_n 0, 1) := by decide +kernel
theorem dX5_isTurned_1 : decode cX5_isTurned 1 = .ok (.aload_n 0, 1) := by decide +kernel
theorem dX5_isTurned_2 : decode cX5_isTurned 2 = .ok (.iload_n 1, 1) := by decide +kernel
theorem dX5_isTurned_3 : decode cX5_isTurned 3 = .ok (.invokevirtual 105, 3) := by decide +kernel
theorem dX5_isTurned_6 : decode cX5_isTurned 6 = .ok (.iconst 1, 1) := by decide +kernel
theorem dX5_isTurned_7 : decode cX5_isTurned 7 = .ok (.iconst 1, 1) := by decide +kernel
theorem dX5_isTurned_8 : decode cX5_isTurned 8 = .ok (.invokevirtual 101, 3) := by decide +kernel
theorem dX5_isTurned_11 : decode cX5_isTurned 11 = .ok (.ifCond .eq 24, 3) := by decide +kernel
theorem dX5_isTurned_14 : decode cX5_isTurned 14 = .ok (.aload_n 0, 1) := by decide +kernel
theorem dX5_isTurned_15 : decode cX5_isTurned 15 = .ok (.getfield 40, 3) := by decide +kernel
theorem dX5_isTurned_18 : decode cX5_isTurned 18 = .ok (.aload_n 0, 1) := by decide +kernel
theorem dX5_isTurned_19 : decode cX5_isTurned 19 = .ok (.iload_n 1, 1) := by decide +kernel
theorem dX5_isTurned_20 : decode cX5_isTurned 20 = .ok (.invokevirtual 146, 3) := by decide +kernel
theorem dX5_isTurned_23 : decode cX5_isTurned 23 = .ok (.bipush 16, 2) := by decide +kernel
theorem dX5_isTurned_25 : decode cX5_isTurned 25 = .ok (.irem, 1) := by decide +kernel
theorem dX5_isTurned_26 : decode cX5_isTurned 26 = .ok (.iaload, 1) := by decide +kernel
theorem dX5_isTurned_27 : decode cX5_isTurned 27 = .ok (.iconst 1, 1) := by decide +kernel
theorem dX5_isTurned_28 : decode cX5_isTurned 28 = .ok (.if_icmp .ne 7, 3) := by decide +kernel
theorem dX5_isTurned_31 : decode cX5_isTurned 31 = .ok (.iconst 1, 1) := by decide +kernel
theorem dX5_isTurned_32 : decode cX5_isTurned 32 = .ok (.goto 4, 3) := by decide +kernel
theorem dX5_isTurned_35 : decode cX5_isTurned 35 = .ok (.iconst 0, 1) := by decide +kernel
theorem dX5_isTurned_36 : decode cX5_isTurned 36 = .ok (.ireturn, 1) := by decide +kernel
theorem dX5_may_0 : decode cX5_may 0 = .ok (.aload_n 0, 1) := by decide +kernel
theorem dX5_may_1 : decode cX5_may 1 = .ok (.getfield 25, 3) := by decide +kernel
theorem dX5_may_4 : decode cX5_may 4 = .ok (.iload_n 1, 1) := by decide +kernel
theorem dX5_may_5 : decode cX5_may 5 = .ok (.iaload, 1) := by decide +kernel
theorem dX5_may_6 : decode cX5_may 6 = .ok (.iconst (-1), 1) := by decide +kernel
theorem dX5_may_7 : decode cX5_may 7 = .ok (.if_icmp .eq 29, 3) := by decide +kernel
theorem dX5_may_10 : decode cX5_may 10 = .ok (.aload_n 0, 1) := by decide +kernel
theorem dX5_may_11 : decode cX5_may 11 = .ok (.getfield 149, 3) := by decide +kernel
theorem dX5_may_14 : decode cX5_may 14 = .ok (.aload_n 0, 1) := by decide +kernel
theorem dX5_may_15 : decode cX5_may 15 = .ok (.getfield 25, 3) := by decide +kernel
theorem dX5_may_18 : decode cX5_may 18 = .ok (.iload_n 1, 1) := by decide +kernel
theorem dX5_may_19 : decode cX5_may 19 = .ok (.iaload, 1) := by decide +kernel
theorem dX5_may_20 : decode cX5_may 20 = .ok (.aload_n 0, 1) := by decide +kernel
theorem dX5_may_21 : decode cX5_may 21 = .ok (.getfield 28, 3) := by decide +kernel
theorem dX5_may_24 : decode cX5_may 24 = .ok (.iload_n 1, 1) := by decide +kernel
theorem dX5_may_25 : decode cX5_may 25 = .ok (.iaload, 1) := by decide +kernel
theorem dX5_may_26 : decode cX5_may 26 = .ok (.invokestatic 73, 3) := by decide +kernel
theorem dX5_may_29 : decode cX5_may 29 = .ok (.ifCond .eq 7, 3) := by decide +kernel
theorem dX5_may_32 : decode cX5_may 32 = .ok (.iconst 1, 1) := by decide +kernel
theorem dX5_may_33 : decode cX5_may 33 = .ok (.goto 4, 3) := by decide +kernel
theorem dX5_may_36 : decode cX5_may 36 = .ok (.iconst 0, 1) := by decide +kernel
theorem dX5_may_37 : decode cX5_may 37 = .ok (.ireturn, 1) := by decide +kernel
theorem dX5_mayAll_0 : decode cX5_mayAll 0 = .ok (.iconst 1, 1) := by decide +kernel
theorem dX5_mayAll_1 : decode cX5_mayAll 1 = .ok (.istore_n 2, 1) := by decide +kernel
theorem dX5_mayAll_2 : decode cX5_mayAll 2 = .ok (.iconst 0, 1) := by decide +kernel
theorem dX5_mayAll_3 : decode cX5_mayAll 3 = .ok (.istore_n 3, 1) := by decide +kernel
theorem dX5_mayAll_4 : decode cX5_mayAll 4 = .ok (.iload_n 3, 1) := by decide +kernel
theorem dX5_mayAll_5 : decode cX5_mayAll 5 = .ok (.bipush 8, 2) := by decide +kernel
theorem dX5_mayAll_7 : decode cX5_mayAll 7 = .ok (.if_icmp .ge 40, 3) := by decide +kernel
theorem dX5_mayAll_10 : decode cX5_mayAll 10 = .ok (.iload_n 2, 1) := by decide +kernel
theorem dX5_mayAll_11 : decode cX5_mayAll 11 = .ok (.ifCond .eq 28, 3) := by decide +kernel
theorem dX5_mayAll_14 : decode cX5_mayAll 14 = .ok (.aload_n 0, 1) := by decide +kernel
theorem dX5_mayAll_15 : decode cX5_mayAll 15 = .ok (.getfield 13, 3) := by decide +kernel
theorem dX5_mayAll_18 : decode cX5_mayAll 18 = .ok (.iload_n 1, 1) := by decide +kernel
theorem dX5_mayAll_19 : decode cX5_mayAll 19 = .ok (.iaload, 1) := by decide +kernel
theorem dX5_mayAll_20 : decode cX5_mayAll 20 = .ok (.iload_n 3, 1) := by decide +kernel
theorem dX5_mayAll_21 : decode cX5_mayAll 21 = .ok (.invokestatic 122, 3) := by decide +kernel
theorem dX5_mayAll_24 : decode cX5_mayAll 24 = .ok (.ifCond .eq 11, 3) := by decide +kernel
theorem dX5_mayAll_27 : decode cX5_mayAll 27 = .ok (.aload_n 0, 1) := by decide +kernel
theorem dX5_mayAll_28 : decode cX5_mayAll 28 = .ok (.iload_n 3, 1) := by decide +kernel
theorem dX5_mayAll_29 : decode cX5_mayAll 29 = .ok (.invokevirtual 152, 3) := by decide +kernel
theorem dX5_mayAll_32 : decode cX5_mayAll 32 = .ok (.ifCond .eq 7, 3) := by decide +kernel
theorem dX5_mayAll_35 : decode cX5_mayAll 35 = .ok (.iconst 1, 1) := by decide +kernel
theorem dX5_mayAll_36 : decode cX5_mayAll 36 = .ok (.goto 4, 3) := by decide +kernel
theorem dX5_mayAll_39 : decode cX5_mayAll 39 = .ok (.iconst 0, 1) := by decide +kernel
theorem dX5_mayAll_40 : decode cX5_mayAll 40 = .ok (.istore_n 2, 1) := by decide +kernel
theorem dX5_mayAll_41 : decode cX5_mayAll 41 = .ok (.iinc 3 1, 3) := by decide +kernel
theorem dX5_mayAll_44 : decode cX5_mayAll 44 = .ok (.goto (-40), 3) := by decide +kernel
theorem dX5_mayAll_47 : decode cX5_mayAll 47 = .ok (.iload_n 2, 1) := by decide +kernel
theorem dX5_mayAll_48 : decode cX5_mayAll 48 = .ok (.ireturn, 1) := by decide +kernel
theorem dX5_isFinished_0 : decode cX5_isFinished 0 = .ok (.aload_n 0, 1) := by decide +kernel
theorem dX5_isFinished_1 : decode cX5_isFinished 1 = .ok (.iload_n 1, 1) := by decide +kernel
theorem dX5_isFinished_2 : decode cX5_isFinished 2 = .ok (.invokevirtual 155, 3) := by decide +kernel
theorem dX5_isFinished_5 : decode cX5_isFinished 5 = .ok (.istore_n 2, 1) := by decide +kernel
theorem dX5_isFinished_6 : decode cX5_isFinished 6 = .ok (.iconst 0, 1) := by decide +kernel
theorem dX5_isFinished_7 : decode cX5_isFinished 7 = .ok (.istore_n 3, 1) := by decide +kernel
theorem dX5_isFinished_8 : decode cX5_isFinished 8 = .ok (.iload_n 3, 1) := by decide +kernel
theorem dX5_isFinished_9 : decode cX5_isFinished 9 = .ok (.iconst 4, 1) := by decide +kernel
theorem dX5_isFinished_10 : decode cX5_isFinished 10 = .ok (.if_icmp .ge 46, 3) := by decide +kernel
theorem dX5_isFinished_13 : decode cX5_isFinished 13 = .ok (.iload_n 2, 1) := by decide +kernel
theorem dX5_isFinished_14 : decode cX5_isFinished 14 = .ok (.ifCond .eq 34, 3) := by decide +kernel
theorem dX5_isFinished_17 : decode cX5_isFinished 17 = .ok (.aload_n 0, 1) := by decide +kernel
theorem dX5_isFinished_18 : decode cX5_isFinished 18 = .ok (.getfield 16, 3) := by decide +kernel
theorem dX5_isFinished_21 : decode cX5_isFinished 21 = .ok (.iload_n 1, 1) := by decide +kernel
theorem dX5_isFinished_22 : decode cX5_isFinished 22 = .ok (.iaload, 1) := by decide +kernel
theorem dX5_isFinished_23 : decode cX5_isFinished 23 = .ok (.iload_n 3, 1) := by decide +kernel
theorem dX5_isFinished_24 : decode cX5_isFinished 24 = .ok (.invokestatic 122, 3) := by decide +kernel
theorem dX5_isFinished_27 : decode cX5_isFinished 27 = .ok (.ifCond .eq 17, 3) := by decide +kernel
theorem dX5_isFinished_30 : decode cX5_isFinished 30 = .ok (.aload_n 0, 1) := by decide +kernel
theorem dX5_isFinished_31 : decode cX5_isFinished 31 = .ok (.getfield 22, 3) := by decide +kernel
theorem dX5_isFinished_34 : decode cX5_isFinished 34 = .ok (.iconst 4, 1) := by decide +kernel
theorem dX5_isFinished_35 : decode cX5_isFinished 35 = .ok (.iload_n 1, 1) := by decide +kernel
theorem dX5_isFinished_36 : decode cX5_isFinished 36 = .ok (.imul, 1) := by decide +kernel
theorem dX5_isFinished_37 : decode cX5_isFinished 37 = .ok (.iload_n 3, 1) := by decide +kernel
theorem dX5_isFinished_38 : decode cX5_isFinished 38 = .ok (.iadd, 1) := by decide +kernel
theorem dX5_isFinished_39 : decode cX5_isFinished 39 = .ok (.iaload, 1) := by decide +kernel
theorem dX5_isFinished_40 : decode cX5_isFinished 40 = .ok (.iconst 2, 1) := by decide +kernel
theorem dX5_isFinished_41 : decode cX5_isFinished 41 = .ok (.if_icmp .ne 7, 3) := by decide +kernel
theorem dX5_isFinished_44 : decode cX5_isFinished 44 = .ok (.iconst 1, 1) := by decide +kernel
theorem dX5_isFinished_45 : decode cX5_isFinished 45 = .ok (.goto 4, 3) := by decide +kernel
theorem dX5_isFinished_48 : decode cX5_isFinished 48 = .ok (.iconst 0, 1) := by decide +kernel
theorem dX5_isFinished_49 : decode cX5_isFinished 49 = .ok (.istore_n 2, 1) := by decide +kernel
theorem dX5_isFinished_50 : decode cX5_isFinished 50 = .ok (.iinc 3 1, 3) := by decide +kernel
theorem dX5_isFinished_53 : decode cX5_isFinished 53 = .ok (.goto (-45), 3) := by decide +kernel
theorem dX5_isFinished_56 : decode cX5_isFinished 56 = .ok (.iload_n 2, 1) := by decide +kernel
theorem dX5_isFinished_57 : decode cX5_isFinished 57 = .ok (.ireturn, 1) := by decide +kernel
theorem dX5_isReadyNow_0 : decode cX5_isReadyNow 0 = .ok (.iconst 1, 1) := by decide +kernel
theorem dX5_isReadyNow_1 : decode cX5_isReadyNow 1 = .ok (.istore_n 2, 1) := by decide +kernel
theorem dX5_isReadyNow_2 : decode cX5_isReadyNow 2 = .ok (.iconst 2, 1) := by decide +kernel
theorem dX5_isReadyNow_3 : decode cX5_isReadyNow 3 = .ok (.aload_n 0, 1) := by decide +kernel
theorem dX5_isReadyNow_4 : decode cX5_isReadyNow 4 = .ok (.invokevirtual 90, 3) := by decide +kernel
theorem dX5_isReadyNow_7 : decode cX5_isReadyNow 7 = .ok (.imul, 1) := by decide +kernel
theorem dX5_isReadyNow_8 : decode cX5_isReadyNow 8 = .ok (.iload_n 1, 1) := by decide +kernel
theorem dX5_isReadyNow_9 : decode cX5_isReadyNow 9 = .ok (.imul, 1) := by decide +kernel
theorem dX5_isReadyNow_10 : decode cX5_isReadyNow 10 = .ok (.istore_n 3, 1) := by decide +kernel
theorem dX5_isReadyNow_11 : decode cX5_isReadyNow 11 = .ok (.iload_n 3, 1) := by decide +kernel
theorem dX5_isReadyNow_12 : decode cX5_isReadyNow 12 = .ok (.iconst 2, 1) := by decide +kernel
theorem dX5_isReadyNow_13 : decode cX5_isReadyNow 13 = .ok (.aload_n 0, 1) := by decide +kernel
theorem dX5_isReadyNow_14 : decode cX5_isReadyNow 14 = .ok (.invokevirtual 90, 3) := by decide +kernel
theorem dX5_isReadyNow_17 : decode cX5_isReadyNow 17 = .ok (.imul, 1) := by decide +kernel
theorem dX5_isReadyNow_18 : decode cX5_isReadyNow 18 = .ok (.iload_n 1, 1) := by decide +kernel
theorem dX5_isReadyNow_19 : decode cX5_isReadyNow 19 = .ok (.iconst 1, 1) := by decide +kernel
theorem dX5_isReadyNow_20 : decode cX5_isReadyNow 20 = .ok (.iadd, 1) := by decide +kernel
theorem dX5_isReadyNow_21 : decode cX5_isReadyNow 21 = .ok (.imul, 1) := by decide +kernel
theorem dX5_isReadyNow_22 : decode cX5_isReadyNow 22 = .ok (.if_icmp .ge 40, 3) := by decide +kernel
theorem dX5_isReadyNow_25 : decode cX5_isReadyNow 25 = .ok (.iload_n 3, 1) := by decide +kernel
theorem dX5_isReadyNow_26 : decode cX5_isReadyNow 26 = .ok (.aload_n 0, 1) := by decide +kernel
theorem dX5_isReadyNow_27 : decode cX5_isReadyNow 27 = .ok (.getfield 70, 3) := by decide +kernel
theorem dX5_isReadyNow_30 : decode cX5_isReadyNow 30 = .ok (.if_icmp .ge 32, 3) := by decide +kernel
theorem dX5_isReadyNow_33 : decode cX5_isReadyNow 33 = .ok (.iload_n 2, 1) := by decide +kernel
theorem dX5_isReadyNow_34 : decode cX5_isReadyNow 34 = .ok (.ifCond .eq 20, 3) := by decide +kernel
theorem dX5_isReadyNow_37 : decode cX5_isReadyNow 37 = .ok (.aload_n 0, 1) := by decide +kernel
theorem dX5_isReadyNow_38 : decode cX5_isReadyNow 38 = .ok (.aload_n 0, 1) := by decide +kernel
theorem dX5_isReadyNow_39 : decode cX5_isReadyNow 39 = .ok (.getfield 7, 3) := by decide +kernel
theorem dX5_isReadyNow_42 : decode cX5_isReadyNow 42 = .ok (.iload_n 3, 1) := by decide +kernel
theorem dX5_isReadyNow_43 : decode cX5_isReadyNow 43 = .ok (.iaload, 1) := by decide +kernel
theorem dX5_isReadyNow_44 : decode cX5_isReadyNow 44 = .ok (.invokevirtual 158, 3) := by decide +kernel
theorem dX5_isReadyNow_47 : decode cX5_isReadyNow 47 = .ok (.ifCond .eq 7, 3) := by decide +kernel
theorem dX5_isReadyNow_50 : decode cX5_isReadyNow 50 = .ok (.iconst 1, 1) := by decide +kernel
theorem dX5_isReadyNow_51 : decode cX5_isReadyNow 51 = .ok (.goto 4, 3) := by decide +kernel
theorem dX5_isReadyNow_54 : decode cX5_isReadyNow 54 = .ok (.iconst 0, 1) := by decide +kernel
theorem dX5_isReadyNow_55 : decode cX5_isReadyNow 55 = .ok (.istore_n 2, 1) := by decide +kernel
theorem dX5_isReadyNow_56 : decode cX5_isReadyNow 56 = .ok (.iinc 3 1, 3) := by decide +kernel
theorem dX5_isReadyNow_59 : decode cX5_isReadyNow 59 = .ok (.goto (-48), 3) := by decide +kernel
theorem dX5_isReadyNow_62 : decode cX5_isReadyNow 62 = .ok (.iload_n 2, 1) := by decide +kernel
theorem dX5_isReadyNow_63 : decode cX5_isReadyNow 63 = .ok (.ireturn, 1) := by decide +kernel
theorem dX5_notes_0 : decode cX5_notes 0 = .ok (.iconst 0, 1) := by decide +kernel
theorem dX5_notes_1 : decode cX5_notes 1 = .ok (.istore_n 1, 1) := by decide +kernel
theorem dX5_notes_2 : decode cX5_notes 2 = .ok (.iload_n 1, 1) := by decide +kernel
theorem dX5_notes_3 : decode cX5_notes 3 = .ok (.aload_n 0, 1) := by decide +kernel
theorem dX5_notes_4 : decode cX5_notes 4 = .ok (.invokevirtual 129, 3) := by decide +kernel
theorem dX5_notes_7 : decode cX5_notes 7 = .ok (.if_icmp .ge 20, 3) := by decide +kernel
theorem dX5_notes_10 : decode cX5_notes 10 = .ok (.aload_n 0, 1) := by decide +kernel
theorem dX5_notes_11 : decode cX5_notes 11 = .ok (.getfield 55, 3) := by decide +kernel
theorem dX5_notes_14 : decode cX5_notes 14 = .ok (.iload_n 1, 1) := by decide +kernel
theorem dX5_notes_15 : decode cX5_notes 15 = .ok (.aload_n 0, 1) := by decide +kernel
theorem dX5_notes_16 : decode cX5_notes 16 = .ok (.iload_n 1, 1) := by decide +kernel
theorem dX5_notes_17 : decode cX5_notes 17 = .ok (.invokevirtual 161, 3) := by decide +kernel
theorem dX5_notes_20 : decode cX5_notes 20 = .ok (.bastore, 1) := by decide +kernel
theorem dX5_notes_21 : decode cX5_notes 21 = .ok (.iinc 1 1, 3) := by decide +kernel
theorem dX5_notes_24 : decode cX5_notes 24 = .ok (.goto (-22), 3) := by decide +kernel
theorem dX5_notes_27 : decode cX5_notes 27 = .ok (.aload_n 0, 1) := by decide +kernel
theorem dX5_notes_28 : decode cX5_notes 28 = .ok (.invokevirtual 164, 3) := by decide +kernel
theorem dX5_notes_31 : decode cX5_notes 31 = .ok (.return_, 1) := by decide +kernel
theorem dX5_looks_0 : decode cX5_looks 0 = .ok (.iconst 0, 1) := by decide +kernel
theorem dX5_looks_1 : decode cX5_looks 1 = .ok (.istore_n 1, 1) := by decide +kernel
theorem dX5_looks_2 : decode cX5_looks 2 = .ok (.iload_n 1, 1) := by decide +kernel
theorem dX5_looks_3 : decode cX5_looks 3 = .ok (.bipush 8, 2) := by decide +kernel
theorem dX5_looks_5 : decode cX5_looks 5 = .ok (.if_icmp .ge 20, 3) := by decide +kernel
theorem dX5_looks_8 : decode cX5_looks 8 = .ok (.aload_n 0, 1) := by decide +kernel
theorem dX5_looks_9 : decode cX5_looks 9 = .ok (.getfield 59, 3) := by decide +kernel
theorem dX5_looks_12 : decode cX5_looks 12 = .ok (.iload_n 1, 1) := by decide +kernel
theorem dX5_looks_13 : decode cX5_looks 13 = .ok (.aload_n 0, 1) := by decide +kernel
theorem dX5_looks_14 : decode cX5_looks 14 = .ok (.iload_n 1, 1) := by decide +kernel
theorem dX5_looks_15 : decode cX5_looks 15 = .ok (.invokevirtual 152, 3) := by decide +kernel
theorem dX5_looks_18 : decode cX5_looks 18 = .ok (.bastore, 1) := by decide +kernel
theorem dX5_looks_19 : decode cX5_looks 19 = .ok (.iinc 1 1, 3) := by decide +kernel
theorem dX5_looks_22 : decode cX5_looks 22 = .ok (.goto (-20), 3) := by decide +kernel
theorem dX5_looks_25 : decode cX5_looks 25 = .ok (.return_, 1) := by decide +kernel
theorem dX5_drops_0 : decode cX5_drops 0 = .ok (.iconst 0, 1) := by decide +kernel
theorem dX5_drops_1 : decode cX5_drops 1 = .ok (.istore_n 1, 1) := by decide +kernel
theorem dX5_drops_2 : decode cX5_drops 2 = .ok (.iload_n 1, 1) := by decide +kernel
theorem dX5_drops_3 : decode cX5_drops 3 = .ok (.aload_n 0, 1) := by decide +kernel
theorem dX5_drops_4 : decode cX5_drops 4 = .ok (.getfield 70, 3) := by decide +kernel
theorem dX5_drops_7 : decode cX5_drops 7 = .ok (.if_icmp .ge 68, 3) := by decide +kernel
theorem dX5_drops_10 : decode cX5_drops 10 = .ok (.iconst 0, 1) := by decide +kernel
theorem dX5_drops_11 : decode cX5_drops 11 = .ok (.istore_n 2, 1) := by decide +kernel
theorem dX5_drops_12 : decode cX5_drops 12 = .ok (.iload_n 2, 1) := by decide +kernel
theorem dX5_drops_13 : decode cX5_drops 13 = .ok (.bipush 8, 2) := by decide +kernel
theorem dX5_drops_15 : decode cX5_drops 15 = .ok (.if_icmp .ge 54, 3) := by decide +kernel
theorem dX5_drops_18 : decode cX5_drops 18 = .ok (.aload_n 0, 1) := by decide +kernel
theorem dX5_drops_19 : decode cX5_drops 19 = .ok (.getfield 13, 3) := by decide +kernel
theorem dX5_drops_22 : decode cX5_drops 22 = .ok (.aload_n 0, 1) := by decide +kernel
theorem dX5_drops_23 : decode cX5_drops 23 = .ok (.getfield 7, 3) := by decide +kernel
theorem dX5_drops_26 : decode cX5_drops 26 = .ok (.iload_n 1, 1) := by decide +kernel
theorem dX5_drops_27 : decode cX5_drops 27 = .ok (.iaload, 1) := by decide +kernel
theorem dX5_drops_28 : decode cX5_drops 28 = .ok (.iaload, 1) := by decide +kernel
theorem dX5_drops_29 : decode cX5_drops 29 = .ok (.iload_n 2, 1) := by decide +kernel
theorem dX5_drops_30 : decode cX5_drops 30 = .ok (.invokestatic 122, 3) := by decide +kernel
theorem dX5_drops_33 : decode cX5_drops 33 = .ok (.ifCond .eq 30, 3) := by decide +kernel
theorem dX5_drops_36 : decode cX5_drops 36 = .ok (.aload_n 0, 1) := by decide +kernel
theorem dX5_drops_37 : decode cX5_drops 37 = .ok (.getfield 59, 3) := by decide +kernel
theorem dX5_drops_40 : decode cX5_drops 40 = .ok (.iload_n 2, 1) := by decide +kernel
theorem dX5_drops_41 : decode cX5_drops 41 = .ok (.baload, 1) := by decide +kernel
theorem dX5_drops_42 : decode cX5_drops 42 = .ok (.ifCond .eq 21, 3) := by decide +kernel
theorem dX5_drops_45 : decode cX5_drops 45 = .ok (.aload_n 0, 1) := by decide +kernel
theorem dX5_drops_46 : decode cX5_drops 46 = .ok (.iload_n 2, 1) := by decide +kernel
theorem dX5_drops_47 : decode cX5_drops 47 = .ok (.invokevirtual 152, 3) := by decide +kernel
theorem dX5_drops_50 : decode cX5_drops 50 = .ok (.ifCond .ne 13, 3) := by decide +kernel
theorem dX5_drops_53 : decode cX5_drops 53 = .ok (.aload_n 0, 1) := by decide +kernel
theorem dX5_drops_54 : decode cX5_drops 54 = .ok (.aload_n 0, 1) := by decide +kernel
theorem dX5_drops_55 : decode cX5_drops 55 = .ok (.getfield 7, 3) := by decide +kernel
theorem dX5_drops_58 : decode cX5_drops 58 = .ok (.iload_n 1, 1) := by decide +kernel
theorem dX5_drops_59 : decode cX5_drops 59 = .ok (.iaload, 1) := by decide +kernel
theorem dX5_drops_60 : decode cX5_drops 60 = .ok (.invokevirtual 112, 3) := by decide +kernel
theorem dX5_drops_63 : decode cX5_drops 63 = .ok (.iinc 2 1, 3) := by decide +kernel
theorem dX5_drops_66 : decode cX5_drops 66 = .ok (.goto (-54), 3) := by decide +kernel
theorem dX5_drops_69 : decode cX5_drops 69 = .ok (.iinc 1 1, 3) := by decide +kernel
theorem dX5_drops_72 : decode cX5_drops 72 = .ok (.goto (-70), 3) := by decide +kernel
theorem dX5_drops_75 : decode cX5_drops 75 = .ok (.return_, 1) := by decide +kernel
theorem dX5_sentBack_0 : decode cX5_sentBack 0 = .ok (.iconst 0, 1) := by decide +kernel
theorem dX5_sentBack_1 : decode cX5_sentBack 1 = .ok (.istore_n 1, 1) := by decide +kernel
theorem dX5_sentBack_2 : decode cX5_sentBack 2 = .ok (.iconst 0, 1) := by decide +kernel
theorem dX5_sentBack_3 : decode cX5_sentBack 3 = .ok (.istore_n 2, 1) := by decide +kernel
theorem dX5_sentBack_4 : decode cX5_sentBack 4 = .ok (.iload_n 2, 1) := by decide +kernel
theorem dX5_sentBack_5 : decode cX5_sentBack 5 = .ok (.aload_n 0, 1) := by decide +kernel
theorem dX5_sentBack_6 : decode cX5_sentBack 6 = .ok (.invokevirtual 129, 3) := by decide +kernel
theorem dX5_sentBack_9 : decode cX5_sentBack 9 = .ok (.if_icmp .ge 34, 3) := by decide +kernel
theorem dX5_sentBack_12 : decode cX5_sentBack 12 = .ok (.iload_n 1, 1) := by decide +kernel
theorem dX5_sentBack_13 : decode cX5_sentBack 13 = .ok (.aload_n 0, 1) := by decide +kernel
theorem dX5_sentBack_14 : decode cX5_sentBack 14 = .ok (.getfield 55, 3) := by decide +kernel
theorem dX5_sentBack_17 : decode cX5_sentBack 17 = .ok (.iload_n 2, 1) := by decide +kernel
theorem dX5_sentBack_18 : decode cX5_sentBack 18 = .ok (.baload, 1) := by decide +kernel
theorem dX5_sentBack_19 : decode cX5_sentBack 19 = .ok (.ifCond .eq 15, 3) := by decide +kernel
theorem dX5_sentBack_22 : decode cX5_sentBack 22 = .ok (.aload_n 0, 1) := by decide +kernel
theorem dX5_sentBack_23 : decode cX5_sentBack 23 = .ok (.iload_n 2, 1) := by decide +kernel
theorem dX5_sentBack_24 : decode cX5_sentBack 24 = .ok (.invokevirtual 161, 3) := by decide +kernel
theorem dX5_sentBack_27 : decode cX5_sentBack 27 = .ok (.ifCond .ne 7, 3) := by decide +kernel
theorem dX5_sentBack_30 : decode cX5_sentBack 30 = .ok (.iconst 1, 1) := by decide +kernel
theorem dX5_sentBack_31 : decode cX5_sentBack 31 = .ok (.goto 4, 3) := by decide +kernel
theorem dX5_sentBack_34 : decode cX5_sentBack 34 = .ok (.iconst 0, 1) := by decide +kernel
theorem dX5_sentBack_35 : decode cX5_sentBack 35 = .ok (.iadd, 1) := by decide +kernel
theorem dX5_sentBack_36 : decode cX5_sentBack 36 = .ok (.istore_n 1, 1) := by decide +kernel
theorem dX5_sentBack_37 : decode cX5_sentBack 37 = .ok (.iinc 2 1, 3) := by decide +kernel
theorem dX5_sentBack_40 : decode cX5_sentBack 40 = .ok (.goto (-36), 3) := by decide +kernel
theorem dX5_sentBack_43 : decode cX5_sentBack 43 = .ok (.iload_n 1, 1) := by decide +kernel
theorem dX5_sentBack_44 : decode cX5_sentBack 44 = .ok (.ireturn, 1) := by decide +kernel
theorem dX5_gives_0 : decode cX5_gives 0 = .ok (.aload_n 0, 1) := by decide +kernel
theorem dX5_gives_1 : decode cX5_gives 1 = .ok (.invokevirtual 167, 3) := by decide +kernel
theorem dX5_gives_4 : decode cX5_gives 4 = .ok (.aload_n 0, 1) := by decide +kernel
theorem dX5_gives_5 : decode cX5_gives 5 = .ok (.getfield 25, 3) := by decide +kernel
theorem dX5_gives_8 : decode cX5_gives 8 = .ok (.iload_n 1, 1) := by decide +kernel
theorem dX5_gives_9 : decode cX5_gives 9 = .ok (.iload_n 2, 1) := by decide +kernel
theorem dX5_gives_10 : decode cX5_gives 10 = .ok (.iastore, 1) := by decide +kernel
theorem dX5_gives_11 : decode cX5_gives 11 = .ok (.aload_n 0, 1) := by decide +kernel
theorem dX5_gives_12 : decode cX5_gives 12 = .ok (.getfield 28, 3) := by decide +kernel
theorem dX5_gives_15 : decode cX5_gives 15 = .ok (.iload_n 1, 1) := by decide +kernel
theorem dX5_gives_16 : decode cX5_gives 16 = .ok (.iload_n 3, 1) := by decide +kernel
theorem dX5_gives_17 : decode cX5_gives 17 = .ok (.iastore, 1) := by decide +kernel
theorem dX5_gives_18 : decode cX5_gives 18 = .ok (.aload_n 0, 1) := by decide +kernel
theorem dX5_gives_19 : decode cX5_gives 19 = .ok (.invokevirtual 170, 3) := by decide +kernel
theorem dX5_gives_22 : decode cX5_gives 22 = .ok (.aload_n 0, 1) := by decide +kernel
theorem dX5_gives_23 : decode cX5_gives 23 = .ok (.invokevirtual 173, 3) := by decide +kernel
theorem dX5_gives_26 : decode cX5_gives 26 = .ok (.ireturn, 1) := by decide +kernel
theorem dX5_setRight_0 : decode cX5_setRight 0 = .ok (.aload_n 0, 1) := by decide +kernel
theorem dX5_setRight_1 : decode cX5_setRight 1 = .ok (.iload_n 1, 1) := by decide +kernel
theorem dX5_setRight_2 : decode cX5_setRight 2 = .ok (.invokestatic 119, 3) := by decide +kernel
theorem dX5_setRight_5 : decode cX5_setRight 5 = .ok (.ifCond .eq 29, 3) := by decide +kernel
theorem dX5_setRight_8 : decode cX5_setRight 8 = .ok (.iload_n 2, 1) := by decide +kernel
theorem dX5_setRight_9 : decode cX5_setRight 9 = .ok (.iconst 0, 1) := by decide +kernel
theorem dX5_setRight_10 : decode cX5_setRight 10 = .ok (.sipush 9999, 3) := by decide +kernel
theorem dX5_setRight_13 : decode cX5_setRight 13 = .ok (.invokestatic 73, 3) := by decide +kernel
theorem dX5_setRight_16 : decode cX5_setRight 16 = .ok (.ifCond .eq 18, 3) := by decide +kernel
theorem dX5_setRight_19 : decode cX5_setRight 19 = .ok (.iload_n 3, 1) := by decide +kernel
theorem dX5_setRight_20 : decode cX5_setRight 20 = .ok (.iload_n 2, 1) := by decide +kernel
theorem dX5_setRight_21 : decode cX5_setRight 21 = .ok (.sipush 9999, 3) := by decide +kernel
theorem dX5_setRight_24 : decode cX5_setRight 24 = .ok (.invokestatic 73, 3) := by decide +kernel
theorem dX5_setRight_27 : decode cX5_setRight 27 = .ok (.ifCond .eq 7, 3) := by decide +kernel
theorem dX5_setRight_30 : decode cX5_setRight 30 = .ok (.iconst 1, 1) := by decide +kernel
theorem dX5_setRight_31 : decode cX5_setRight 31 = .ok (.goto 4, 3) := by decide +kernel
theorem dX5_setRight_34 : decode cX5_setRight 34 = .ok (.iconst 0, 1) := by decide +kernel
theorem dX5_setRight_35 : decode cX5_setRight 35 = .ok (.iconst 1, 1) := by decide +kernel
theorem dX5_setRight_36 : decode cX5_setRight 36 = .ok (.iconst 1, 1) := by decide +kernel
theorem dX5_setRight_37 : decode cX5_setRight 37 = .ok (.invokevirtual 101, 3) := by decide +kernel
theorem dX5_setRight_40 : decode cX5_setRight 40 = .ok (.ifCond .ne 5, 3) := by decide +kernel
theorem dX5_setRight_43 : decode cX5_setRight 43 = .ok (.iconst 0, 1) := by decide +kernel
theorem dX5_setRight_44 : decode cX5_setRight 44 = .ok (.ireturn, 1) := by decide +kernel
theorem dX5_setRight_45 : decode cX5_setRight 45 = .ok (.aload_n 0, 1) := by decide +kernel
theorem dX5_setRight_46 : decode cX5_setRight 46 = .ok (.iload_n 1, 1) := by decide +kernel
theorem dX5_setRight_47 : decode cX5_setRight 47 = .ok (.iload_n 2, 1) := by decide +kernel
theorem dX5_setRight_48 : decode cX5_setRight 48 = .ok (.iload_n 3, 1) := by decide +kernel
theorem dX5_setRight_49 : decode cX5_setRight 49 = .ok (.invokevirtual 176, 3) := by decide +kernel
theorem dX5_setRight_52 : decode cX5_setRight 52 = .ok (.ireturn, 1) := by decide +kernel
theorem dX5_withdraw_0 : decode cX5_withdraw 0 = .ok (.iload_n 1, 1) := by decide +kernel
theorem dX5_withdraw_1 : decode cX5_withdraw 1 = .ok (.invokestatic 119, 3) := by decide +kernel
theorem dX5_withdraw_4 : decode cX5_withdraw 4 = .ok (.istore_n 2, 1) := by decide +kernel
theorem dX5_withdraw_5 : decode cX5_withdraw 5 = .ok (.aload_n 0, 1) := by decide +kernel
theorem dX5_withdraw_6 : decode cX5_withdraw 6 = .ok (.iload_n 2, 1) := by decide +kernel
theorem dX5_withdraw_7 : decode cX5_withdraw 7 = .ok (.iload_n 2, 1) := by decide +kernel
theorem dX5_withdraw_8 : decode cX5_withdraw 8 = .ok (.ifCond .eq 17, 3) := by decide +kernel
theorem dX5_withdraw_11 : decode cX5_withdraw 11 = .ok (.aload_n 0, 1) := by decide +kernel
theorem dX5_withdraw_12 : decode cX5_withdraw 12 = .ok (.getfield 25, 3) := by decide +kernel
theorem dX5_withdraw_15 : decode cX5_withdraw 15 = .ok (.iload_n 1, 1) := by decide +kernel
theorem dX5_withdraw_16 : decode cX5_withdraw 16 = .ok (.iaload, 1) := by decide +kernel
theorem dX5_withdraw_17 : decode cX5_withdraw 17 = .ok (.iconst (-1), 1) := by decide +kernel
theorem dX5_withdraw_18 : decode cX5_withdraw 18 = .ok (.if_icmp .eq 7, 3) := by decide +kernel
theorem dX5_withdraw_21 : decode cX5_withdraw 21 = .ok (.iconst 1, 1) := by decide +kernel
theorem dX5_withdraw_22 : decode cX5_withdraw 22 = .ok (.goto 4, 3) := by decide +kernel
theorem dX5_withdraw_25 : decode cX5_withdraw 25 = .ok (.iconst 0, 1) := by decide +kernel
theorem dX5_withdraw_26 : decode cX5_withdraw 26 = .ok (.iconst 1, 1) := by decide +kernel
theorem dX5_withdraw_27 : decode cX5_withdraw 27 = .ok (.invokevirtual 101, 3) := by decide +kernel
theorem dX5_withdraw_30 : decode cX5_withdraw 30 = .ok (.ifCond .ne 5, 3) := by decide +kernel
theorem dX5_withdraw_33 : decode cX5_withdraw 33 = .ok (.iconst 0, 1) := by decide +kernel
theorem dX5_withdraw_34 : decode cX5_withdraw 34 = .ok (.ireturn, 1) := by decide +kernel
theorem dX5_withdraw_35 : decode cX5_withdraw 35 = .ok (.aload_n 0, 1) := by decide +kernel
theorem dX5_withdraw_36 : decode cX5_withdraw 36 = .ok (.iload_n 1, 1) := by decide +kernel
theorem dX5_withdraw_37 : decode cX5_withdraw 37 = .ok (.iconst (-1), 1) := by decide +kernel
theorem dX5_withdraw_38 : decode cX5_withdraw 38 = .ok (.iconst (-1), 1) := by decide +kernel
theorem dX5_withdraw_39 : decode cX5_withdraw 39 = .ok (.invokevirtual 176, 3) := by decide +kernel
theorem dX5_withdraw_42 : decode cX5_withdraw 42 = .ok (.ireturn, 1) := by decide +kernel
theorem dX5_pass_0 : decode cX5_pass 0 = .ok (.aload_n 0, 1) := by decide +kernel
theorem dX5_pass_1 : decode cX5_pass 1 = .ok (.iload_n 1, 1) := by decide +kernel
theorem dX5_pass_2 : decode cX5_pass 2 = .ok (.iconst 1, 1) := by decide +kernel
theorem dX5_pass_3 : decode cX5_pass 3 = .ok (.bipush 100, 2) := by decide +kernel
theorem dX5_pass_5 : decode cX5_pass 5 = .ok (.invokestatic 73, 3) := by decide +kernel
theorem dX5_pass_8 : decode cX5_pass 8 = .ok (.iconst 1, 1) := by decide +kernel
theorem dX5_pass_9 : decode cX5_pass 9 = .ok (.iconst 1, 1) := by decide +kernel
theorem dX5_pass_10 : decode cX5_pass 10 = .ok (.invokevirtual 101, 3) := by decide +kernel
theorem dX5_pass_13 : decode cX5_pass 13 = .ok (.ifCond .ne 5, 3) := by decide +kernel
theorem dX5_pass_16 : decode cX5_pass 16 = .ok (.iconst 0, 1) := by decide +kernel
theorem dX5_pass_17 : decode cX5_pass 17 = .ok (.ireturn, 1) := by decide +kernel
theorem dX5_pass_18 : decode cX5_pass 18 = .ok (.aload_n 0, 1) := by decide +kernel
theorem dX5_pass_19 : decode cX5_pass 19 = .ok (.invokevirtual 167, 3) := by decide +kernel
theorem dX5_pass_22 : decode cX5_pass 22 = .ok (.iconst 0, 1) := by decide +kernel
theorem dX5_pass_23 : decode cX5_pass 23 = .ok (.istore_n 2, 1) := by decide +kernel
theorem dX5_pass_24 : decode cX5_pass 24 = .ok (.iload_n 2, 1) := by decide +kernel
theorem dX5_pass_25 : decode cX5_pass 25 = .ok (.iload_n 1, 1) := by decide +kernel
theorem dX5_pass_26 : decode cX5_pass 26 = .ok (.if_icmp .ge 27, 3) := by decide +kernel
theorem dX5_pass_29 : decode cX5_pass 29 = .ok (.aload_n 0, 1) := by decide +kernel
theorem dX5_pass_30 : decode cX5_pass 30 = .ok (.invokevirtual 164, 3) := by decide +kernel
theorem dX5_pass_33 : decode cX5_pass 33 = .ok (.aload_n 0, 1) := by decide +kernel
theorem dX5_pass_34 : decode cX5_pass 34 = .ok (.dup, 1) := by decide +kernel
theorem dX5_pass_35 : decode cX5_pass 35 = .ok (.getfield 149, 3) := by decide +kernel
theorem dX5_pass_38 : decode cX5_pass 38 = .ok (.iconst 1, 1) := by decide +kernel
theorem dX5_pass_39 : decode cX5_pass 39 = .ok (.iadd, 1) := by decide +kernel
theorem dX5_pass_40 : decode cX5_pass 40 = .ok (.putfield 149, 3) := by decide +kernel
theorem dX5_pass_43 : decode cX5_pass 43 = .ok (.aload_n 0, 1) := by decide +kernel
theorem dX5_pass_44 : decode cX5_pass 44 = .ok (.invokevirtual 170, 3) := by decide +kernel
theorem dX5_pass_47 : decode cX5_pass 47 = .ok (.iinc 2 1, 3) := by decide +kernel
theorem dX5_pass_50 : decode cX5_pass 50 = .ok (.goto (-26), 3) := by decide +kernel
theorem dX5_pass_53 : decode cX5_pass 53 = .ok (.aload_n 0, 1) := by decide +kernel
theorem dX5_pass_54 : decode cX5_pass 54 = .ok (.invokevirtual 173, 3) := by decide +kernel
theorem dX5_pass_57 : decode cX5_pass 57 = .ok (.ireturn, 1) := by decide +kernel
theorem dX5_today_0 : decode cX5_today 0 = .ok (.aload_n 0, 1) := by decide +kernel
theorem dX5_today_1 : decode cX5_today 1 = .ok (.aload_n 0, 1) := by decide +kernel
theorem dX5_today_2 : decode cX5_today 2 = .ok (.getfield 149, 3) := by decide +kernel
theorem dX5_today_5 : decode cX5_today 5 = .ok (.invokevirtual 125, 3) := by decide +kernel
theorem dX5_today_8 : decode cX5_today 8 = .ok (.ireturn, 1) := by decide +kernel
theorem dX5_mayUse_0 : decode cX5_mayUse 0 = .ok (.aload_n 0, 1) := by decide +kernel
theorem dX5_mayUse_1 : decode cX5_mayUse 1 = .ok (.iload_n 1, 1) := by decide +kernel
theorem dX5_mayUse_2 : decode cX5_mayUse 2 = .ok (.invokestatic 119, 3) := by decide +kernel
theorem dX5_mayUse_5 : decode cX5_mayUse 5 = .ok (.iconst 1, 1) := by decide +kernel
theorem dX5_mayUse_6 : decode cX5_mayUse 6 = .ok (.iconst 1, 1) := by decide +kernel
theorem dX5_mayUse_7 : decode cX5_mayUse 7 = .ok (.invokevirtual 101, 3) := by decide +kernel
theorem dX5_mayUse_10 : decode cX5_mayUse 10 = .ok (.ifCond .eq 15, 3) := by decide +kernel
theorem dX5_mayUse_13 : decode cX5_mayUse 13 = .ok (.aload_n 0, 1) := by decide +kernel
theorem dX5_mayUse_14 : decode cX5_mayUse 14 = .ok (.iload_n 1, 1) := by decide +kernel
theorem dX5_mayUse_15 : decode cX5_mayUse 15 = .ok (.invokevirtual 152, 3) := by decide +kernel
theorem dX5_mayUse_18 : decode cX5_mayUse 18 = .ok (.ifCond .eq 7, 3) := by decide +kernel
theorem dX5_mayUse_21 : decode cX5_mayUse 21 = .ok (.iconst 1, 1) := by decide +kernel
theorem dX5_mayUse_22 : decode cX5_mayUse 22 = .ok (.goto 4, 3) := by decide +kernel
theorem dX5_mayUse_25 : decode cX5_mayUse 25 = .ok (.iconst 0, 1) := by decide +kernel
theorem dX5_mayUse_26 : decode cX5_mayUse 26 = .ok (.ireturn, 1) := by decide +kernel
theorem dX5_prove_0 : decode cX5_prove 0 = .ok (.aload_n 0, 1) := by decide +kernel
theorem dX5_prove_1 : decode cX5_prove 1 = .ok (.iload_n 1, 1) := by decide +kernel
theorem dX5_prove_2 : decode cX5_prove 2 = .ok (.invokevirtual 105, 3) := by decide +kernel
theorem dX5_prove_5 : decode cX5_prove 5 = .ok (.istore_n 3, 1) := by decide +kernel
theorem dX5_prove_6 : decode cX5_prove 6 = .ok (.iload_n 2, 1) := by decide +kernel
theorem dX5_prove_7 : decode cX5_prove 7 = .ok (.invokestatic 179, 3) := by decide +kernel
theorem dX5_prove_10 : decode cX5_prove 10 = .ok (.istore 4, 2) := by decide +kernel
theorem dX5_prove_12 : decode cX5_prove 12 = .ok (.iload_n 3, 1) := by decide +kernel
theorem dX5_prove_13 : decode cX5_prove 13 = .ok (.ifCond .eq 12, 3) := by decide +kernel
theorem dX5_prove_16 : decode cX5_prove 16 = .ok (.aload_n 0, 1) := by decide +kernel
theorem dX5_prove_17 : decode cX5_prove 17 = .ok (.getfield 7, 3) := by decide +kernel
theorem dX5_prove_20 : decode cX5_prove 20 = .ok (.iload_n 1, 1) := by decide +kernel
theorem dX5_prove_21 : decode cX5_prove 21 = .ok (.iaload, 1) := by decide +kernel
theorem dX5_prove_22 : decode cX5_prove 22 = .ok (.goto 4, 3) := by decide +kernel
theorem dX5_prove_25 : decode cX5_prove 25 = .ok (.iconst 0, 1) := by decide +kernel
theorem dX5_prove_26 : decode cX5_prove 26 = .ok (.istore 5, 2) := by decide +kernel
theorem dX5_prove_28 : decode cX5_prove 28 = .ok (.iconst 4, 1) := by decide +kernel
theorem dX5_prove_29 : decode cX5_prove 29 = .ok (.iload 5, 2) := by decide +kernel
theorem dX5_prove_31 : decode cX5_prove 31 = .ok (.imul, 1) := by decide +kernel
theorem dX5_prove_32 : decode cX5_prove 32 = .ok (.iload 4, 2) := by decide +kernel
theorem dX5_prove_34 : decode cX5_prove 34 = .ok (.ifCond .eq 7, 3) := by decide +kernel
theorem dX5_prove_37 : decode cX5_prove 37 = .ok (.iload_n 2, 1) := by decide +kernel
theorem dX5_prove_38 : decode cX5_prove 38 = .ok (.goto 4, 3) := by decide +kernel
theorem dX5_prove_41 : decode cX5_prove 41 = .ok (.iconst 0, 1) := by decide +kernel
theorem dX5_prove_42 : decode cX5_prove 42 = .ok (.iadd, 1) := by decide +kernel
theorem dX5_prove_43 : decode cX5_prove 43 = .ok (.istore 6, 2) := by decide +kernel
theorem dX5_prove_45 : decode cX5_prove 45 = .ok (.iload_n 3, 1) := by decide +kernel
theorem dX5_prove_46 : decode cX5_prove 46 = .ok (.ifCond .eq 56, 3) := by decide +kernel
theorem dX5_prove_49 : decode cX5_prove 49 = .ok (.iload 4, 2) := by decide +kernel
theorem dX5_prove_51 : decode cX5_prove 51 = .ok (.ifCond .eq 51, 3) := by decide +kernel
theorem dX5_prove_54 : decode cX5_prove 54 = .ok (.aload_n 0, 1) := by decide +kernel
theorem dX5_prove_55 : decode cX5_prove 55 = .ok (.getfield 16, 3) := by decide +kernel
theorem dX5_prove_58 : decode cX5_prove 58 = .ok (.iload 5, 2) := by decide +kernel
theorem dX5_prove_60 : decode cX5_prove 60 = .ok (.iaload, 1) := by decide +kernel
theorem dX5_prove_61 : decode cX5_prove 61 = .ok (.iload_n 2, 1) := by decide +kernel
theorem dX5_prove_62 : decode cX5_prove 62 = .ok (.invokestatic 122, 3) := by decide +kernel
theorem dX5_prove_65 : decode cX5_prove 65 = .ok (.ifCond .eq 37, 3) := by decide +kernel
theorem dX5_prove_68 : decode cX5_prove 68 = .ok (.aload_n 0, 1) := by decide +kernel
theorem dX5_prove_69 : decode cX5_prove 69 = .ok (.iload 5, 2) := by decide +kernel
theorem dX5_prove_71 : decode cX5_prove 71 = .ok (.invokevirtual 155, 3) := by decide +kernel
theorem dX5_prove_74 : decode cX5_prove 74 = .ok (.ifCond .eq 28, 3) := by decide +kernel
theorem dX5_prove_77 : decode cX5_prove 77 = .ok (.aload_n 0, 1) := by decide +kernel
theorem dX5_prove_78 : decode cX5_prove 78 = .ok (.getfield 22, 3) := by decide +kernel
theorem dX5_prove_81 : decode cX5_prove 81 = .ok (.iload 6, 2) := by decide +kernel
theorem dX5_prove_83 : decode cX5_prove 83 = .ok (.iaload, 1) := by decide +kernel
theorem dX5_prove_84 : decode cX5_prove 84 = .ok (.ifCond .eq 14, 3) := by decide +kernel
theorem dX5_prove_87 : decode cX5_prove 87 = .ok (.aload_n 0, 1) := by decide +kernel
theorem dX5_prove_88 : decode cX5_prove 88 = .ok (.getfield 22, 3) := by decide +kernel
theorem dX5_prove_91 : decode cX5_prove 91 = .ok (.iload 6, 2) := by decide +kernel
theorem dX5_prove_93 : decode cX5_prove 93 = .ok (.iaload, 1) := by decide +kernel
theorem dX5_prove_94 : decode cX5_prove 94 = .ok (.iconst 3, 1) := by decide +kernel
theorem dX5_prove_95 : decode cX5_prove 95 = .ok (.if_icmp .ne 7, 3) := by decide +kernel
theorem dX5_prove_98 : decode cX5_prove 98 = .ok (.iconst 1, 1) := by decide +kernel
theorem dX5_prove_99 : decode cX5_prove 99 = .ok (.goto 4, 3) := by decide +kernel
theorem dX5_prove_102 : decode cX5_prove 102 = .ok (.iconst 0, 1) := by decide +kernel
theorem dX5_prove_103 : decode cX5_prove 103 = .ok (.istore 7, 2) := by decide +kernel
theorem dX5_prove_105 : decode cX5_prove 105 = .ok (.aload_n 0, 1) := by decide +kernel
theorem dX5_prove_106 : decode cX5_prove 106 = .ok (.iload_n 3, 1) := by decide +kernel
theorem dX5_prove_107 : decode cX5_prove 107 = .ok (.iload 4, 2) := by decide +kernel
theorem dX5_prove_109 : decode cX5_prove 109 = .ok (.iload 7, 2) := by decide +kernel
theorem dX5_prove_111 : decode cX5_prove 111 = .ok (.invokevirtual 101, 3) := by decide +kernel
theorem dX5_prove_114 : decode cX5_prove 114 = .ok (.ifCond .ne 5, 3) := by decide +kernel
theorem dX5_prove_117 : decode cX5_prove 117 = .ok (.iconst 0, 1) := by decide +kernel
theorem dX5_prove_118 : decode cX5_prove 118 = .ok (.ireturn, 1) := by decide +kernel
theorem dX5_prove_119 : decode cX5_prove 119 = .ok (.aload_n 0, 1) := by decide +kernel
theorem dX5_prove_120 : decode cX5_prove 120 = .ok (.getfield 22, 3) := by decide +kernel
theorem dX5_prove_123 : decode cX5_prove 123 = .ok (.iload 6, 2) := by decide +kernel
theorem dX5_prove_125 : decode cX5_prove 125 = .ok (.iconst 1, 1) := by decide +kernel
theorem dX5_prove_126 : decode cX5_prove 126 = .ok (.iastore, 1) := by decide +kernel
theorem dX5_prove_127 : decode cX5_prove 127 = .ok (.iconst 0, 1) := by decide +kernel
theorem dX5_prove_128 : decode cX5_prove 128 = .ok (.istore 8, 2) := by decide +kernel
theorem dX5_prove_130 : decode cX5_prove 130 = .ok (.iconst 0, 1) := by decide +kernel
theorem dX5_prove_131 : decode cX5_prove 131 = .ok (.istore 9, 2) := by decide +kernel
theorem dX5_prove_133 : decode cX5_prove 133 = .ok (.iload 9, 2) := by decide +kernel
theorem dX5_prove_135 : decode cX5_prove 135 = .ok (.iconst 4, 1) := by decide +kernel
theorem dX5_prove_136 : decode cX5_prove 136 = .ok (.if_icmp .ge 45, 3) := by decide +kernel
theorem dX5_prove_139 : decode cX5_prove 139 = .ok (.aload_n 0, 1) := by decide +kernel
theorem dX5_prove_140 : decode cX5_prove 140 = .ok (.getfield 22, 3) := by decide +kernel
theorem dX5_prove_143 : decode cX5_prove 143 = .ok (.iconst 4, 1) := by decide +kernel
theorem dX5_prove_144 : decode cX5_prove 144 = .ok (.iload 5, 2) := by decide +kernel
theorem dX5_prove_146 : decode cX5_prove 146 = .ok (.imul, 1) := by decide +kernel
theorem dX5_prove_147 : decode cX5_prove 147 = .ok (.iload 9, 2) := by decide +kernel
theorem dX5_prove_149 : decode cX5_prove 149 = .ok (.iadd, 1) := by decide +kernel
theorem dX5_prove_150 : decode cX5_prove 150 = .ok (.iaload, 1) := by decide +kernel
theorem dX5_prove_151 : decode cX5_prove 151 = .ok (.istore 10, 2) := by decide +kernel
theorem dX5_prove_153 : decode cX5_prove 153 = .ok (.iload 8, 2) := by decide +kernel
theorem dX5_prove_155 : decode cX5_prove 155 = .ok (.iload 10, 2) := by decide +kernel
theorem dX5_prove_157 : decode cX5_prove 157 = .ok (.iconst 1, 1) := by decide +kernel
theorem dX5_prove_158 : decode cX5_prove 158 = .ok (.if_icmp .eq 9, 3) := by decide +kernel
theorem dX5_prove_161 : decode cX5_prove 161 = .ok (.iload 10, 2) := by decide +kernel
theorem dX5_prove_163 : decode cX5_prove 163 = .ok (.iconst 2, 1) := by decide +kernel
theorem dX5_prove_164 : decode cX5_prove 164 = .ok (.if_icmp .ne 7, 3) := by decide +kernel
theorem dX5_prove_167 : decode cX5_prove 167 = .ok (.iconst 1, 1) := by decide +kernel
theorem dX5_prove_168 : decode cX5_prove 168 = .ok (.goto 4, 3) := by decide +kernel
theorem dX5_prove_171 : decode cX5_prove 171 = .ok (.iconst 0, 1) := by decide +kernel
theorem dX5_prove_172 : decode cX5_prove 172 = .ok (.iadd, 1) := by decide +kernel
theorem dX5_prove_173 : decode cX5_prove 173 = .ok (.istore 8, 2) := by decide +kernel
theorem dX5_prove_175 : decode cX5_prove 175 = .ok (.iinc 9 1, 3) := by decide +kernel
theorem dX5_prove_178 : decode cX5_prove 178 = .ok (.goto (-45), 3) := by decide +kernel
theorem dX5_prove_181 : decode cX5_prove 181 = .ok (.iload 8, 2) := by decide +kernel
theorem dX5_prove_183 : decode cX5_prove 183 = .ok (.ireturn, 1) := by decide +kernel
theorem dX5_judge_0 : decode cX5_judge 0 = .ok (.aload_n 0, 1) := by decide +kernel
theorem dX5_judge_1 : decode cX5_judge 1 = .ok (.iload_n 1, 1) := by decide +kernel
theorem dX5_judge_2 : decode cX5_judge 2 = .ok (.invokevirtual 105, 3) := by decide +kernel
theorem dX5_judge_5 : decode cX5_judge 5 = .ok (.istore 4, 2) := by decide +kernel
theorem dX5_judge_7 : decode cX5_judge 7 = .ok (.iload_n 2, 1) := by decide +kernel
theorem dX5_judge_8 : decode cX5_judge 8 = .ok (.invokestatic 179, 3) := by decide +kernel
theorem dX5_judge_11 : decode cX5_judge 11 = .ok (.istore 5, 2) := by decide +kernel
theorem dX5_judge_13 : decode cX5_judge 13 = .ok (.iload 4, 2) := by decide +kernel
theorem dX5_judge_15 : decode cX5_judge 15 = .ok (.ifCond .eq 21, 3) := by decide +kernel
theorem dX5_judge_18 : decode cX5_judge 18 = .ok (.iload 5, 2) := by decide +kernel
theorem dX5_judge_20 : decode cX5_judge 20 = .ok (.ifCond .eq 16, 3) := by decide +kernel
theorem dX5_judge_23 : decode cX5_judge 23 = .ok (.iconst 4, 1) := by decide +kernel
theorem dX5_judge_24 : decode cX5_judge 24 = .ok (.aload_n 0, 1) := by decide +kernel
theorem dX5_judge_25 : decode cX5_judge 25 = .ok (.getfield 7, 3) := by decide +kernel
theorem dX5_judge_28 : decode cX5_judge 28 = .ok (.iload_n 1, 1) := by decide +kernel
theorem dX5_judge_29 : decode cX5_judge 29 = .ok (.iaload, 1) := by decide +kernel
theorem dX5_judge_30 : decode cX5_judge 30 = .ok (.imul, 1) := by decide +kernel
theorem dX5_judge_31 : decode cX5_judge 31 = .ok (.iload_n 2, 1) := by decide +kernel
theorem dX5_judge_32 : decode cX5_judge 32 = .ok (.iadd, 1) := by decide +kernel
theorem dX5_judge_33 : decode cX5_judge 33 = .ok (.goto 4, 3) := by decide +kernel
theorem dX5_judge_36 : decode cX5_judge 36 = .ok (.iconst 0, 1) := by decide +kernel
theorem dX5_judge_37 : decode cX5_judge 37 = .ok (.istore 6, 2) := by decide +kernel
theorem dX5_judge_39 : decode cX5_judge 39 = .ok (.aload_n 0, 1) := by decide +kernel
theorem dX5_judge_40 : decode cX5_judge 40 = .ok (.iload 4, 2) := by decide +kernel
theorem dX5_judge_42 : decode cX5_judge 42 = .ok (.iload 5, 2) := by decide +kernel
theorem dX5_judge_44 : decode cX5_judge 44 = .ok (.iload 4, 2) := by decide +kernel
theorem dX5_judge_46 : decode cX5_judge 46 = .ok (.ifCond .eq 23, 3) := by decide +kernel
theorem dX5_judge_49 : decode cX5_judge 49 = .ok (.iload 5, 2) := by decide +kernel
theorem dX5_judge_51 : decode cX5_judge 51 = .ok (.ifCond .eq 18, 3) := by decide +kernel
theorem dX5_judge_54 : decode cX5_judge 54 = .ok (.aload_n 0, 1) := by decide +kernel
theorem dX5_judge_55 : decode cX5_judge 55 = .ok (.getfield 22, 3) := by decide +kernel
theorem dX5_judge_58 : decode cX5_judge 58 = .ok (.iload 6, 2) := by decide +kernel
theorem dX5_judge_60 : decode cX5_judge 60 = .ok (.iaload, 1) := by decide +kernel
theorem dX5_judge_61 : decode cX5_judge 61 = .ok (.iconst 1, 1) := by decide +kernel
theorem dX5_judge_62 : decode cX5_judge 62 = .ok (.if_icmp .ne 7, 3) := by decide +kernel
theorem dX5_judge_65 : decode cX5_judge 65 = .ok (.iconst 1, 1) := by decide +kernel
theorem dX5_judge_66 : decode cX5_judge 66 = .ok (.goto 4, 3) := by decide +kernel
theorem dX5_judge_69 : decode cX5_judge 69 = .ok (.iconst 0, 1) := by decide +kernel
theorem dX5_judge_70 : decode cX5_judge 70 = .ok (.invokevirtual 101, 3) := by decide +kernel
theorem dX5_judge_73 : decode cX5_judge 73 = .ok (.ifCond .ne 5, 3) := by decide +kernel
theorem dX5_judge_76 : decode cX5_judge 76 = .ok (.iconst 0, 1) := by decide +kernel
theorem dX5_judge_77 : decode cX5_judge 77 = .ok (.ireturn, 1) := by decide +kernel
theorem dX5_judge_78 : decode cX5_judge 78 = .ok (.aload_n 0, 1) := by decide +kernel
theorem dX5_judge_79 : decode cX5_judge 79 = .ok (.getfield 22, 3) := by decide +kernel
theorem dX5_judge_82 : decode cX5_judge 82 = .ok (.iload 6, 2) := by decide +kernel
theorem dX5_judge_84 : decode cX5_judge 84 = .ok (.iload_n 3, 1) := by decide +kernel
theorem dX5_judge_85 : decode cX5_judge 85 = .ok (.ifCond .eq 7, 3) := by decide +kernel
theorem dX5_judge_88 : decode cX5_judge 88 = .ok (.iconst 2, 1) := by decide +kernel
theorem dX5_judge_89 : decode cX5_judge 89 = .ok (.goto 4, 3) := by decide +kernel
theorem dX5_judge_92 : decode cX5_judge 92 = .ok (.iconst 3, 1) := by decide +kernel
theorem dX5_judge_93 : decode cX5_judge 93 = .ok (.iastore, 1) := by decide +kernel
theorem dX5_judge_94 : decode cX5_judge 94 = .ok (.aload_n 0, 1) := by decide +kernel
theorem dX5_judge_95 : decode cX5_judge 95 = .ok (.aload_n 0, 1) := by decide +kernel
theorem dX5_judge_96 : decode cX5_judge 96 = .ok (.getfield 7, 3) := by decide +kernel
theorem dX5_judge_99 : decode cX5_judge 99 = .ok (.iload_n 1, 1) := by decide +kernel
theorem dX5_judge_100 : decode cX5_judge 100 = .ok (.iaload, 1) := by decide +kernel
theorem dX5_judge_101 : decode cX5_judge 101 = .ok (.invokevirtual 158, 3) := by decide +kernel
theorem dX5_judge_104 : decode cX5_judge 104 = .ok (.ireturn, 1) := by decide +kernel
theorem dX5_proof_0 : decode cX5_proof 0 = .ok (.aload_n 0, 1) := by decide +kernel
theorem dX5_proof_1 : decode cX5_proof 1 = .ok (.aload_n 0, 1) := by decide +kernel
theorem dX5_proof_2 : decode cX5_proof 2 = .ok (.iload_n 1, 1) := by decide +kernel
theorem dX5_proof_3 : decode cX5_proof 3 = .ok (.invokevirtual 105, 3) := by decide +kernel
theorem dX5_proof_6 : decode cX5_proof 6 = .ok (.iload_n 2, 1) := by decide +kernel
theorem dX5_proof_7 : decode cX5_proof 7 = .ok (.invokestatic 179, 3) := by decide +kernel
theorem dX5_proof_10 : decode cX5_proof 10 = .ok (.iconst 1, 1) := by decide +kernel
theorem dX5_proof_11 : decode cX5_proof 11 = .ok (.invokevirtual 101, 3) := by decide +kernel
theorem dX5_proof_14 : decode cX5_proof 14 = .ok (.ifCond .ne 5, 3) := by decide +kernel
theorem dX5_proof_17 : decode cX5_proof 17 = .ok (.iconst 0, 1) := by decide +kernel
theorem dX5_proof_18 : decode cX5_proof 18 = .ok (.ireturn, 1) := by decide +kernel
theorem dX5_proof_19 : decode cX5_proof 19 = .ok (.aload_n 0, 1) := by decide +kernel
theorem dX5_proof_20 : decode cX5_proof 20 = .ok (.getfield 16, 3) := by decide +kernel
theorem dX5_proof_23 : decode cX5_proof 23 = .ok (.aload_n 0, 1) := by decide +kernel
theorem dX5_proof_24 : decode cX5_proof 24 = .ok (.getfield 7, 3) := by decide +kernel
theorem dX5_proof_27 : decode cX5_proof 27 = .ok (.iload_n 1, 1) := by decide +kernel
theorem dX5_proof_28 : decode cX5_proof 28 = .ok (.iaload, 1) := by decide +kernel
theorem dX5_proof_29 : decode cX5_proof 29 = .ok (.iaload, 1) := by decide +kernel
theorem dX5_proof_30 : decode cX5_proof 30 = .ok (.iload_n 2, 1) := by decide +kernel
theorem dX5_proof_31 : decode cX5_proof 31 = .ok (.invokestatic 122, 3) := by decide +kernel
theorem dX5_proof_34 : decode cX5_proof 34 = .ok (.ifCond .eq 21, 3) := by decide +kernel
theorem dX5_proof_37 : decode cX5_proof 37 = .ok (.aload_n 0, 1) := by decide +kernel
theorem dX5_proof_38 : decode cX5_proof 38 = .ok (.getfield 22, 3) := by decide +kernel
theorem dX5_proof_41 : decode cX5_proof 41 = .ok (.iconst 4, 1) := by decide +kernel
theorem dX5_proof_42 : decode cX5_proof 42 = .ok (.aload_n 0, 1) := by decide +kernel
theorem dX5_proof_43 : decode cX5_proof 43 = .ok (.getfield 7, 3) := by decide +kernel
theorem dX5_proof_46 : decode cX5_proof 46 = .ok (.iload_n 1, 1) := by decide +kernel
theorem dX5_proof_47 : decode cX5_proof 47 = .ok (.iaload, 1) := by decide +kernel
theorem dX5_proof_48 : decode cX5_proof 48 = .ok (.imul, 1) := by decide +kernel
theorem dX5_proof_49 : decode cX5_proof 49 = .ok (.iload_n 2, 1) := by decide +kernel
theorem dX5_proof_50 : decode cX5_proof 50 = .ok (.iadd, 1) := by decide +kernel
theorem dX5_proof_51 : decode cX5_proof 51 = .ok (.iaload, 1) := by decide +kernel
theorem dX5_proof_52 : decode cX5_proof 52 = .ok (.goto 4, 3) := by decide +kernel
theorem dX5_proof_55 : decode cX5_proof 55 = .ok (.iconst (-1), 1) := by decide +kernel
theorem dX5_proof_56 : decode cX5_proof 56 = .ok (.ireturn, 1) := by decide +kernel
theorem dX5_isReady_0 : decode cX5_isReady 0 = .ok (.aload_n 0, 1) := by decide +kernel
theorem dX5_isReady_1 : decode cX5_isReady 1 = .ok (.aload_n 0, 1) := by decide +kernel
theorem dX5_isReady_2 : decode cX5_isReady 2 = .ok (.iload_n 1, 1) := by decide +kernel
theorem dX5_isReady_3 : decode cX5_isReady 3 = .ok (.invokevirtual 132, 3) := by decide +kernel
theorem dX5_isReady_6 : decode cX5_isReady 6 = .ok (.iconst 1, 1) := by decide +kernel
theorem dX5_isReady_7 : decode cX5_isReady 7 = .ok (.iconst 1, 1) := by decide +kernel
theorem dX5_isReady_8 : decode cX5_isReady 8 = .ok (.invokevirtual 101, 3) := by decide +kernel
theorem dX5_isReady_11 : decode cX5_isReady 11 = .ok (.ifCond .eq 15, 3) := by decide +kernel
theorem dX5_isReady_14 : decode cX5_isReady 14 = .ok (.aload_n 0, 1) := by decide +kernel
theorem dX5_isReady_15 : decode cX5_isReady 15 = .ok (.iload_n 1, 1) := by decide +kernel
theorem dX5_isReady_16 : decode cX5_isReady 16 = .ok (.invokevirtual 161, 3) := by decide +kernel
theorem dX5_isReady_19 : decode cX5_isReady 19 = .ok (.ifCond .eq 7, 3) := by decide +kernel
theorem dX5_isReady_22 : decode cX5_isReady 22 = .ok (.iconst 1, 1) := by decide +kernel
theorem dX5_isReady_23 : decode cX5_isReady 23 = .ok (.goto 4, 3) := by decide +kernel
theorem dX5_isReady_26 : decode cX5_isReady 26 = .ok (.iconst 0, 1) := by decide +kernel
theorem dX5_isReady_27 : decode cX5_isReady 27 = .ok (.ireturn, 1) := by decide +kernel
theorem dX5_plate_0 : decode cX5_plate 0 = .ok (.bipush 8, 2) := by decide +kernel
theorem dX5_plate_2 : decode cX5_plate 2 = .ok (.iload_n 0, 1) := by decide +kernel
theorem dX5_plate_3 : decode cX5_plate 3 = .ok (.imul, 1) := by decide +kernel
theorem dX5_plate_4 : decode cX5_plate 4 = .ok (.iconst 4, 1) := by decide +kernel
theorem dX5_plate_5 : decode cX5_plate 5 = .ok (.iload_n 1, 1) := by decide +kernel
theorem dX5_plate_6 : decode cX5_plate 6 = .ok (.imul, 1) := by decide +kernel
theorem dX5_plate_7 : decode cX5_plate 7 = .ok (.iadd, 1) := by decide +kernel
theorem dX5_plate_8 : decode cX5_plate 8 = .ok (.iload_n 2, 1) := by decide +kernel
theorem dX5_plate_9 : decode cX5_plate 9 = .ok (.iadd, 1) := by decide +kernel
theorem dX5_plate_10 : decode cX5_plate 10 = .ok (.ireturn, 1) := by decide +kernel
theorem dX5_laysNow_0 : decode cX5_laysNow 0 = .ok (.iload_n 1, 1) := by decide +kernel
theorem dX5_laysNow_1 : decode cX5_laysNow 1 = .ok (.bipush 8, 2) := by decide +kernel
theorem dX5_laysNow_3 : decode cX5_laysNow 3 = .ok (.idiv, 1) := by decide +kernel
theorem dX5_laysNow_4 : decode cX5_laysNow 4 = .ok (.istore_n 2, 1) := by decide +kernel
theorem dX5_laysNow_5 : decode cX5_laysNow 5 = .ok (.iload_n 1, 1) := by decide +kernel
theorem dX5_laysNow_6 : decode cX5_laysNow 6 = .ok (.iconst 4, 1) := by decide +kernel
theorem dX5_laysNow_7 : decode cX5_laysNow 7 = .ok (.idiv, 1) := by decide +kernel
theorem dX5_laysNow_8 : decode cX5_laysNow 8 = .ok (.iconst 2, 1) := by decide +kernel
theorem dX5_laysNow_9 : decode cX5_laysNow 9 = .ok (.irem, 1) := by decide +kernel
theorem dX5_laysNow_10 : decode cX5_laysNow 10 = .ok (.istore_n 3, 1) := by decide +kernel
theorem dX5_laysNow_11 : decode cX5_laysNow 11 = .ok (.iconst 0, 1) := by decide +kernel
theorem dX5_laysNow_12 : decode cX5_laysNow 12 = .ok (.istore 4, 2) := by decide +kernel
theorem dX5_laysNow_14 : decode cX5_laysNow 14 = .ok (.iconst 0, 1) := by decide +kernel
theorem dX5_laysNow_15 : decode cX5_laysNow 15 = .ok (.istore 5, 2) := by decide +kernel
theorem dX5_laysNow_17 : decode cX5_laysNow 17 = .ok (.iload 5, 2) := by decide +kernel
theorem dX5_laysNow_19 : decode cX5_laysNow 19 = .ok (.aload_n 0, 1) := by decide +kernel
theorem dX5_laysNow_20 : decode cX5_laysNow 20 = .ok (.invokevirtual 90, 3) := by decide +kernel
theorem dX5_laysNow_23 : decode cX5_laysNow 23 = .ok (.if_icmp .ge 117, 3) := by decide +kernel
theorem dX5_laysNow_26 : decode cX5_laysNow 26 = .ok (.aload_n 0, 1) := by decide +kernel
theorem dX5_laysNow_27 : decode cX5_laysNow 27 = .ok (.iload_n 2, 1) := by decide +kernel
theorem dX5_laysNow_28 : decode cX5_laysNow 28 = .ok (.iload_n 3, 1) := by decide +kernel
theorem dX5_laysNow_29 : decode cX5_laysNow 29 = .ok (.iload 5, 2) := by decide +kernel
theorem dX5_laysNow_31 : decode cX5_laysNow 31 = .ok (.invokevirtual 138, 3) := by decide +kernel
theorem dX5_laysNow_34 : decode cX5_laysNow 34 = .ok (.istore 6, 2) := by decide +kernel
theorem dX5_laysNow_36 : decode cX5_laysNow 36 = .ok (.iload 6, 2) := by decide +kernel
theorem dX5_laysNow_38 : decode cX5_laysNow 38 = .ok (.iconst (-1), 1) := by decide +kernel
theorem dX5_laysNow_39 : decode cX5_laysNow 39 = .ok (.if_icmp .eq 95, 3) := by decide +kernel
theorem dX5_laysNow_42 : decode cX5_laysNow 42 = .ok (.aload_n 0, 1) := by decide +kernel
theorem dX5_laysNow_43 : decode cX5_laysNow 43 = .ok (.getfield 16, 3) := by decide +kernel
theorem dX5_laysNow_46 : decode cX5_laysNow 46 = .ok (.aload_n 0, 1) := by decide +kernel
theorem dX5_laysNow_47 : decode cX5_laysNow 47 = .ok (.getfield 7, 3) := by decide +kernel
theorem dX5_laysNow_50 : decode cX5_laysNow 50 = .ok (.iload 6, 2) := by decide +kernel
theorem dX5_laysNow_52 : decode cX5_laysNow 52 = .ok (.iaload, 1) := by decide +kernel
theorem dX5_laysNow_53 : decode cX5_laysNow 53 = .ok (.iaload, 1) := by decide +kernel
theorem dX5_laysNow_54 : decode cX5_laysNow 54 = .ok (.iload_n 1, 1) := by decide +kernel
theorem dX5_laysNow_55 : decode cX5_laysNow 55 = .ok (.iconst 4, 1) := by decide +kernel
theorem dX5_laysNow_56 : decode cX5_laysNow 56 = .ok (.irem, 1) := by decide +kernel
theorem dX5_laysNow_57 : decode cX5_laysNow 57 = .ok (.invokestatic 122, 3) := by decide +kernel
theorem dX5_laysNow_60 : decode cX5_laysNow 60 = .ok (.ifCond .eq 74, 3) := by decide +kernel
theorem dX5_laysNow_63 : decode cX5_laysNow 63 = .ok (.bipush 32, 2) := by decide +kernel
theorem dX5_laysNow_65 : decode cX5_laysNow 65 = .ok (.iload 5, 2) := by decide +kernel
theorem dX5_laysNow_67 : decode cX5_laysNow 67 = .ok (.aload_n 0, 1) := by decide +kernel
theorem dX5_laysNow_68 : decode cX5_laysNow 68 = .ok (.getfield 83, 3) := by decide +kernel
theorem dX5_laysNow_71 : decode cX5_laysNow 71 = .ok (.idiv, 1) := by decide +kernel
theorem dX5_laysNow_72 : decode cX5_laysNow 72 = .ok (.imul, 1) := by decide +kernel
theorem dX5_laysNow_73 : decode cX5_laysNow 73 = .ok (.iconst 2, 1) := by decide +kernel
theorem dX5_laysNow_74 : decode cX5_laysNow 74 = .ok (.iload 5, 2) := by decide +kernel
theorem dX5_laysNow_76 : decode cX5_laysNow 76 = .ok (.aload_n 0, 1) := by decide +kernel
theorem dX5_laysNow_77 : decode cX5_laysNow 77 = .ok (.getfield 83, 3) := by decide +kernel
theorem dX5_laysNow_80 : decode cX5_laysNow 80 = .ok (.irem, 1) := by decide +kernel
theorem dX5_laysNow_81 : decode cX5_laysNow 81 = .ok (.imul, 1) := by decide +kernel
theorem dX5_laysNow_82 : decode cX5_laysNow 82 = .ok (.iadd, 1) := by decide +kernel
theorem dX5_laysNow_83 : decode cX5_laysNow 83 = .ok (.aload_n 0, 1) := by decide +kernel
theorem dX5_laysNow_84 : decode cX5_laysNow 84 = .ok (.getfield 40, 3) := by decide +kernel
theorem dX5_laysNow_87 : decode cX5_laysNow 87 = .ok (.iload 5, 2) := by decide +kernel
theorem dX5_laysNow_89 : decode cX5_laysNow 89 = .ok (.iaload, 1) := by decide +kernel
theorem dX5_laysNow_90 : decode cX5_laysNow 90 = .ok (.iadd, 1) := by decide +kernel
theorem dX5_laysNow_91 : decode cX5_laysNow 91 = .ok (.istore 7, 2) := by decide +kernel
theorem dX5_laysNow_93 : decode cX5_laysNow 93 = .ok (.aload_n 0, 1) := by decide +kernel
theorem dX5_laysNow_94 : decode cX5_laysNow 94 = .ok (.getfield 52, 3) := by decide +kernel
theorem dX5_laysNow_97 : decode cX5_laysNow 97 = .ok (.iload 4, 2) := by decide +kernel
theorem dX5_laysNow_99 : decode cX5_laysNow 99 = .ok (.sipush 512, 3) := by decide +kernel
theorem dX5_laysNow_102 : decode cX5_laysNow 102 = .ok (.sipush 128, 3) := by decide +kernel
theorem dX5_laysNow_105 : decode cX5_laysNow 105 = .ok (.aload_n 0, 1) := by decide +kernel
theorem dX5_laysNow_106 : decode cX5_laysNow 106 = .ok (.getfield 19, 3) := by decide +kernel
theorem dX5_laysNow_109 : decode cX5_laysNow 109 = .ok (.aload_n 0, 1) := by decide +kernel
theorem dX5_laysNow_110 : decode cX5_laysNow 110 = .ok (.getfield 7, 3) := by decide +kernel
theorem dX5_laysNow_113 : decode cX5_laysNow 113 = .ok (.iload 6, 2) := by decide +kernel
theorem dX5_laysNow_115 : decode cX5_laysNow 115 = .ok (.iaload, 1) := by decide +kernel
theorem dX5_laysNow_116 : decode cX5_laysNow 116 = .ok (.iaload, 1) := by decide +kernel
theorem dX5_laysNow_117 : decode cX5_laysNow 117 = .ok (.imul, 1) := by decide +kernel
theorem dX5_laysNow_118 : decode cX5_laysNow 118 = .ok (.aload_n 0, 1) := by decide +kernel
theorem dX5_laysNow_119 : decode cX5_laysNow 119 = .ok (.getfield 7, 3) := by decide +kernel
theorem dX5_laysNow_122 : decode cX5_laysNow 122 = .ok (.iload 6, 2) := by decide +kernel
theorem dX5_laysNow_124 : decode cX5_laysNow 124 = .ok (.iaload, 1) := by decide +kernel
theorem dX5_laysNow_125 : decode cX5_laysNow 125 = .ok (.iadd, 1) := by decide +kernel
theorem dX5_laysNow_126 : decode cX5_laysNow 126 = .ok (.imul, 1) := by decide +kernel
theorem dX5_laysNow_127 : decode cX5_laysNow 127 = .ok (.iload 7, 2) := by decide +kernel
theorem dX5_laysNow_129 : decode cX5_laysNow 129 = .ok (.iadd, 1) := by decide +kernel
theorem dX5_laysNow_130 : decode cX5_laysNow 130 = .ok (.iastore, 1) := by decide +kernel
theorem dX5_laysNow_131 : decode cX5_laysNow 131 = .ok (.iinc 4 1, 3) := by decide +kernel
theorem dX5_laysNow_134 : decode cX5_laysNow 134 = .ok (.iinc 5 1, 3) := by decide +kernel
theorem dX5_laysNow_137 : decode cX5_laysNow 137 = .ok (.goto (-120), 3) := by decide +kernel
theorem dX5_laysNow_140 : decode cX5_laysNow 140 = .ok (.iload 4, 2) := by decide +kernel
theorem dX5_laysNow_142 : decode cX5_laysNow 142 = .ok (.ireturn, 1) := by decide +kernel
theorem dX5_isGood_0 : decode cX5_isGood 0 = .ok (.aload_n 0, 1) := by decide +kernel
theorem dX5_isGood_1 : decode cX5_isGood 1 = .ok (.iload_n 1, 1) := by decide +kernel
theorem dX5_isGood_2 : decode cX5_isGood 2 = .ok (.invokevirtual 182, 3) := by decide +kernel
theorem dX5_isGood_5 : decode cX5_isGood 5 = .ok (.istore_n 2, 1) := by decide +kernel
theorem dX5_isGood_6 : decode cX5_isGood 6 = .ok (.iload_n 2, 1) := by decide +kernel
theorem dX5_isGood_7 : decode cX5_isGood 7 = .ok (.ifCond .le 29, 3) := by decide +kernel
theorem dX5_isGood_10 : decode cX5_isGood 10 = .ok (.aload_n 0, 1) := by decide +kernel
theorem dX5_isGood_11 : decode cX5_isGood 11 = .ok (.getfield 43, 3) := by decide +kernel
theorem dX5_isGood_14 : decode cX5_isGood 14 = .ok (.iload_n 1, 1) := by decide +kernel
theorem dX5_isGood_15 : decode cX5_isGood 15 = .ok (.iaload, 1) := by decide +kernel
theorem dX5_isGood_16 : decode cX5_isGood 16 = .ok (.iload_n 2, 1) := by decide +kernel
theorem dX5_isGood_17 : decode cX5_isGood 17 = .ok (.if_icmp .ne 19, 3) := by decide +kernel
theorem dX5_isGood_20 : decode cX5_isGood 20 = .ok (.aload_n 0, 1) := by decide +kernel
theorem dX5_isGood_21 : decode cX5_isGood 21 = .ok (.getfield 46, 3) := by decide +kernel
theorem dX5_isGood_24 : decode cX5_isGood 24 = .ok (.iload_n 1, 1) := by decide +kernel
theorem dX5_isGood_25 : decode cX5_isGood 25 = .ok (.iaload, 1) := by decide +kernel
theorem dX5_isGood_26 : decode cX5_isGood 26 = .ok (.sipush 1000, 3) := by decide +kernel
theorem dX5_isGood_29 : decode cX5_isGood 29 = .ok (.if_icmp .ge 7, 3) := by decide +kernel
theorem dX5_isGood_32 : decode cX5_isGood 32 = .ok (.iconst 1, 1) := by decide +kernel
theorem dX5_isGood_33 : decode cX5_isGood 33 = .ok (.goto 4, 3) := by decide +kernel
theorem dX5_isGood_36 : decode cX5_isGood 36 = .ok (.iconst 0, 1) := by decide +kernel
theorem dX5_isGood_37 : decode cX5_isGood 37 = .ok (.istore_n 3, 1) := by decide +kernel
theorem dX5_isGood_38 : decode cX5_isGood 38 = .ok (.iconst 0, 1) := by decide +kernel
theorem dX5_isGood_39 : decode cX5_isGood 39 = .ok (.istore 4, 2) := by decide +kernel
theorem dX5_isGood_41 : decode cX5_isGood 41 = .ok (.iload 4, 2) := by decide +kernel
theorem dX5_isGood_43 : decode cX5_isGood 43 = .ok (.iload_n 2, 1) := by decide +kernel
theorem dX5_isGood_44 : decode cX5_isGood 44 = .ok (.if_icmp .ge 41, 3) := by decide +kernel
theorem dX5_isGood_47 : decode cX5_isGood 47 = .ok (.iload_n 3, 1) := by decide +kernel
theorem dX5_isGood_48 : decode cX5_isGood 48 = .ok (.ifCond .eq 37, 3) := by decide +kernel
theorem dX5_isGood_51 : decode cX5_isGood 51 = .ok (.aload_n 0, 1) := by decide +kernel
theorem dX5_isGood_52 : decode cX5_isGood 52 = .ok (.getfield 49, 3) := by decide +kernel
theorem dX5_isGood_55 : decode cX5_isGood 55 = .ok (.bipush 16, 2) := by decide +kernel
theorem dX5_isGood_57 : decode cX5_isGood 57 = .ok (.iload_n 1, 1) := by decide +kernel
theorem dX5_isGood_58 : decode cX5_isGood 58 = .ok (.imul, 1) := by decide +kernel
theorem dX5_isGood_59 : decode cX5_isGood 59 = .ok (.iload 4, 2) := by decide +kernel
theorem dX5_isGood_61 : decode cX5_isGood 61 = .ok (.iadd, 1) := by decide +kernel
theorem dX5_isGood_62 : decode cX5_isGood 62 = .ok (.iaload, 1) := by decide +kernel
theorem dX5_isGood_63 : decode cX5_isGood 63 = .ok (.aload_n 0, 1) := by decide +kernel
theorem dX5_isGood_64 : decode cX5_isGood 64 = .ok (.getfield 52, 3) := by decide +kernel
theorem dX5_isGood_67 : decode cX5_isGood 67 = .ok (.iload 4, 2) := by decide +kernel
theorem dX5_isGood_69 : decode cX5_isGood 69 = .ok (.iaload, 1) := by decide +kernel
theorem dX5_isGood_70 : decode cX5_isGood 70 = .ok (.if_icmp .ne 7, 3) := by decide +kernel
theorem dX5_isGood_73 : decode cX5_isGood 73 = .ok (.iconst 1, 1) := by decide +kernel
theorem dX5_isGood_74 : decode cX5_isGood 74 = .ok (.goto 4, 3) := by decide +kernel
theorem dX5_isGood_77 : decode cX5_isGood 77 = .ok (.iconst 0, 1) := by decide +kernel
theorem dX5_isGood_78 : decode cX5_isGood 78 = .ok (.istore_n 3, 1) := by decide +kernel
theorem dX5_isGood_79 : decode cX5_isGood 79 = .ok (.iinc 4 1, 3) := by decide +kernel
theorem dX5_isGood_82 : decode cX5_isGood 82 = .ok (.goto (-41), 3) := by decide +kernel
theorem dX5_isGood_85 : decode cX5_isGood 85 = .ok (.iload_n 3, 1) := by decide +kernel
theorem dX5_isGood_86 : decode cX5_isGood 86 = .ok (.ireturn, 1) := by decide +kernel
theorem dX5_makePlates_0 : decode cX5_makePlates 0 = .ok (.aload_n 0, 1) := by decide +kernel
theorem dX5_makePlates_1 : decode cX5_makePlates 1 = .ok (.iload_n 1, 1) := by decide +kernel
theorem dX5_makePlates_2 : decode cX5_makePlates 2 = .ok (.invokevirtual 132, 3) := by decide +kernel
theorem dX5_makePlates_5 : decode cX5_makePlates 5 = .ok (.istore_n 2, 1) := by decide +kernel
theorem dX5_makePlates_6 : decode cX5_makePlates 6 = .ok (.aload_n 0, 1) := by decide +kernel
theorem dX5_makePlates_7 : decode cX5_makePlates 7 = .ok (.iload_n 2, 1) := by decide +kernel
theorem dX5_makePlates_8 : decode cX5_makePlates 8 = .ok (.iload_n 2, 1) := by decide +kernel
theorem dX5_makePlates_9 : decode cX5_makePlates 9 = .ok (.ifCond .eq 15, 3) := by decide +kernel
theorem dX5_makePlates_12 : decode cX5_makePlates 12 = .ok (.aload_n 0, 1) := by decide +kernel
theorem dX5_makePlates_13 : decode cX5_makePlates 13 = .ok (.iload_n 1, 1) := by decide +kernel
theorem dX5_makePlates_14 : decode cX5_makePlates 14 = .ok (.invokevirtual 161, 3) := by decide +kernel
theorem dX5_makePlates_17 : decode cX5_makePlates 17 = .ok (.ifCond .eq 7, 3) := by decide +kernel
theorem dX5_makePlates_20 : decode cX5_makePlates 20 = .ok (.iconst 1, 1) := by decide +kernel
theorem dX5_makePlates_21 : decode cX5_makePlates 21 = .ok (.goto 4, 3) := by decide +kernel
theorem dX5_makePlates_24 : decode cX5_makePlates 24 = .ok (.iconst 0, 1) := by decide +kernel
theorem dX5_makePlates_25 : decode cX5_makePlates 25 = .ok (.iconst 1, 1) := by decide +kernel
theorem dX5_makePlates_26 : decode cX5_makePlates 26 = .ok (.invokevirtual 101, 3) := by decide +kernel
theorem dX5_makePlates_29 : decode cX5_makePlates 29 = .ok (.ifCond .ne 5, 3) := by decide +kernel
theorem dX5_makePlates_32 : decode cX5_makePlates 32 = .ok (.iconst 0, 1) := by decide +kernel
theorem dX5_makePlates_33 : decode cX5_makePlates 33 = .ok (.ireturn, 1) := by decide +kernel
theorem dX5_makePlates_34 : decode cX5_makePlates 34 = .ok (.iconst 0, 1) := by decide +kernel
theorem dX5_makePlates_35 : decode cX5_makePlates 35 = .ok (.istore_n 3, 1) := by decide +kernel
theorem dX5_makePlates_36 : decode cX5_makePlates 36 = .ok (.iload_n 1, 1) := by decide +kernel
theorem dX5_makePlates_37 : decode cX5_makePlates 37 = .ok (.iconst 0, 1) := by decide +kernel
theorem dX5_makePlates_38 : decode cX5_makePlates 38 = .ok (.iconst 0, 1) := by decide +kernel
theorem dX5_makePlates_39 : decode cX5_makePlates 39 = .ok (.invokestatic 185, 3) := by decide +kernel
theorem dX5_makePlates_42 : decode cX5_makePlates 42 = .ok (.istore 4, 2) := by decide +kernel
theorem dX5_makePlates_44 : decode cX5_makePlates 44 = .ok (.iload 4, 2) := by decide +kernel
theorem dX5_makePlates_46 : decode cX5_makePlates 46 = .ok (.iload_n 1, 1) := by decide +kernel
theorem dX5_makePlates_47 : decode cX5_makePlates 47 = .ok (.iconst 1, 1) := by decide +kernel
theorem dX5_makePlates_48 : decode cX5_makePlates 48 = .ok (.iadd, 1) := by decide +kernel
theorem dX5_makePlates_49 : decode cX5_makePlates 49 = .ok (.iconst 0, 1) := by decide +kernel
theorem dX5_makePlates_50 : decode cX5_makePlates 50 = .ok (.iconst 0, 1) := by decide +kernel
theorem dX5_makePlates_51 : decode cX5_makePlates 51 = .ok (.invokestatic 185, 3) := by decide +kernel
theorem dX5_makePlates_54 : decode cX5_makePlates 54 = .ok (.if_icmp .ge 87, 3) := by decide +kernel
theorem dX5_makePlates_57 : decode cX5_makePlates 57 = .ok (.aload_n 0, 1) := by decide +kernel
theorem dX5_makePlates_58 : decode cX5_makePlates 58 = .ok (.iload 4, 2) := by decide +kernel
theorem dX5_makePlates_60 : decode cX5_makePlates 60 = .ok (.invokevirtual 182, 3) := by decide +kernel
theorem dX5_makePlates_63 : decode cX5_makePlates 63 = .ok (.istore 5, 2) := by decide +kernel
theorem dX5_makePlates_65 : decode cX5_makePlates 65 = .ok (.iload 5, 2) := by decide +kernel
theorem dX5_makePlates_67 : decode cX5_makePlates 67 = .ok (.ifCond .le 68, 3) := by decide +kernel
theorem dX5_makePlates_70 : decode cX5_makePlates 70 = .ok (.aload_n 0, 1) := by decide +kernel
theorem dX5_makePlates_71 : decode cX5_makePlates 71 = .ok (.iload 4, 2) := by decide +kernel
theorem dX5_makePlates_73 : decode cX5_makePlates 73 = .ok (.invokevirtual 188, 3) := by decide +kernel
theorem dX5_makePlates_76 : decode cX5_makePlates 76 = .ok (.ifCond .ne 59, 3) := by decide +kernel
theorem dX5_makePlates_79 : decode cX5_makePlates 79 = .ok (.aload_n 0, 1) := by decide +kernel
theorem dX5_makePlates_80 : decode cX5_makePlates 80 = .ok (.getfield 43, 3) := by decide +kernel
theorem dX5_makePlates_83 : decode cX5_makePlates 83 = .ok (.iload 4, 2) := by decide +kernel
theorem dX5_makePlates_85 : decode cX5_makePlates 85 = .ok (.iload 5, 2) := by decide +kernel
theorem dX5_makePlates_87 : decode cX5_makePlates 87 = .ok (.iastore, 1) := by decide +kernel
theorem dX5_makePlates_88 : decode cX5_makePlates 88 = .ok (.aload_n 0, 1) := by decide +kernel
theorem dX5_makePlates_89 : decode cX5_makePlates 89 = .ok (.getfield 46, 3) := by decide +kernel
theorem dX5_makePlates_92 : decode cX5_makePlates 92 = .ok (.iload 4, 2) := by decide +kernel
theorem dX5_makePlates_94 : decode cX5_makePlates 94 = .ok (.iconst 0, 1) := by decide +kernel
theorem dX5_makePlates_95 : decode cX5_makePlates 95 = .ok (.iastore, 1) := by decide +kernel
theorem dX5_makePlates_96 : decode cX5_makePlates 96 = .ok (.iconst 0, 1) := by decide +kernel
theorem dX5_makePlates_97 : decode cX5_makePlates 97 = .ok (.istore 6, 2) := by decide +kernel
theorem dX5_makePlates_99 : decode cX5_makePlates 99 = .ok (.iload 6, 2) := by decide +kernel
theorem dX5_makePlates_101 : decode cX5_makePlates 101 = .ok (.iload 5, 2) := by decide +kernel
theorem dX5_makePlates_103 : decode cX5_makePlates 103 = .ok (.if_icmp .ge 29, 3) := by decide +kernel
theorem dX5_makePlates_106 : decode cX5_makePlates 106 = .ok (.aload_n 0, 1) := by decide +kernel
theorem dX5_makePlates_107 : decode cX5_makePlates 107 = .ok (.getfield 49, 3) := by decide +kernel
theorem dX5_makePlates_110 : decode cX5_makePlates 110 = .ok (.bipush 16, 2) := by decide +kernel
theorem dX5_makePlates_112 : decode cX5_makePlates 112 = .ok (.iload 4, 2) := by decide +kernel
theorem dX5_makePlates_114 : decode cX5_makePlates 114 = .ok (.imul, 1) := by decide +kernel
theorem dX5_makePlates_115 : decode cX5_makePlates 115 = .ok (.iload 6, 2) := by decide +kernel
theorem dX5_makePlates_117 : decode cX5_makePlates 117 = .ok (.iadd, 1) := by decide +kernel
theorem dX5_makePlates_118 : decode cX5_makePlates 118 = .ok (.aload_n 0, 1) := by decide +kernel
theorem dX5_makePlates_119 : decode cX5_makePlates 119 = .ok (.getfield 52, 3) := by decide +kernel
theorem dX5_makePlates_122 : decode cX5_makePlates 122 = .ok (.iload 6, 2) := by decide +kernel
theorem dX5_makePlates_124 : decode cX5_makePlates 124 = .ok (.iaload, 1) := by decide +kernel
theorem dX5_makePlates_125 : decode cX5_makePlates 125 = .ok (.iastore, 1) := by decide +kernel
theorem dX5_makePlates_126 : decode cX5_makePlates 126 = .ok (.iinc 6 1, 3) := by decide +kernel
theorem dX5_makePlates_129 : decode cX5_makePlates 129 = .ok (.goto (-30), 3) := by decide +kernel
theorem dX5_makePlates_132 : decode cX5_makePlates 132 = .ok (.iinc 3 1, 3) := by decide +kernel
theorem dX5_makePlates_135 : decode cX5_makePlates 135 = .ok (.iinc 4 1, 3) := by decide +kernel
theorem dX5_makePlates_138 : decode cX5_makePlates 138 = .ok (.goto (-94), 3) := by decide +kernel
theorem dX5_makePlates_141 : decode cX5_makePlates 141 = .ok (.aload_n 0, 1) := by decide +kernel
theorem dX5_makePlates_142 : decode cX5_makePlates 142 = .ok (.dup, 1) := by decide +kernel
theorem dX5_makePlates_143 : decode cX5_makePlates 143 = .ok (.getfield 191, 3) := by decide +kernel
theorem dX5_makePlates_146 : decode cX5_makePlates 146 = .ok (.iload_n 3, 1) := by decide +kernel
theorem dX5_makePlates_147 : decode cX5_makePlates 147 = .ok (.iadd, 1) := by decide +kernel
theorem dX5_makePlates_148 : decode cX5_makePlates 148 = .ok (.putfield 191, 3) := by decide +kernel
theorem dX5_makePlates_151 : decode cX5_makePlates 151 = .ok (.iload_n 3, 1) := by decide +kernel
theorem dX5_makePlates_152 : decode cX5_makePlates 152 = .ok (.ireturn, 1) := by decide +kernel
theorem dX5_wear_0 : decode cX5_wear 0 = .ok (.aload_n 0, 1) := by decide +kernel
theorem dX5_wear_1 : decode cX5_wear 1 = .ok (.aload_n 0, 1) := by decide +kernel
theorem dX5_wear_2 : decode cX5_wear 2 = .ok (.iload_n 1, 1) := by decide +kernel
theorem dX5_wear_3 : decode cX5_wear 3 = .ok (.invokevirtual 132, 3) := by decide +kernel
theorem dX5_wear_6 : decode cX5_wear 6 = .ok (.iload_n 2, 1) := by decide +kernel
theorem dX5_wear_7 : decode cX5_wear 7 = .ok (.invokestatic 135, 3) := by decide +kernel
theorem dX5_wear_10 : decode cX5_wear 10 = .ok (.ifCond .eq 14, 3) := by decide +kernel
theorem dX5_wear_13 : decode cX5_wear 13 = .ok (.iload_n 3, 1) := by decide +kernel
theorem dX5_wear_14 : decode cX5_wear 14 = .ok (.invokestatic 179, 3) := by decide +kernel
theorem dX5_wear_17 : decode cX5_wear 17 = .ok (.ifCond .eq 7, 3) := by decide +kernel
theorem dX5_wear_20 : decode cX5_wear 20 = .ok (.iconst 1, 1) := by decide +kernel
theorem dX5_wear_21 : decode cX5_wear 21 = .ok (.goto 4, 3) := by decide +kernel
theorem dX5_wear_24 : decode cX5_wear 24 = .ok (.iconst 0, 1) := by decide +kernel
theorem dX5_wear_25 : decode cX5_wear 25 = .ok (.iconst 1, 1) := by decide +kernel
theorem dX5_wear_26 : decode cX5_wear 26 = .ok (.invokevirtual 101, 3) := by decide +kernel
theorem dX5_wear_29 : decode cX5_wear 29 = .ok (.ifCond .ne 5, 3) := by decide +kernel
theorem dX5_wear_32 : decode cX5_wear 32 = .ok (.iconst 0, 1) := by decide +kernel
theorem dX5_wear_33 : decode cX5_wear 33 = .ok (.ireturn, 1) := by decide +kernel
theorem dX5_wear_34 : decode cX5_wear 34 = .ok (.iload_n 1, 1) := by decide +kernel
theorem dX5_wear_35 : decode cX5_wear 35 = .ok (.iload_n 2, 1) := by decide +kernel
theorem dX5_wear_36 : decode cX5_wear 36 = .ok (.iload_n 3, 1) := by decide +kernel
theorem dX5_wear_37 : decode cX5_wear 37 = .ok (.invokestatic 185, 3) := by decide +kernel
theorem dX5_wear_40 : decode cX5_wear 40 = .ok (.istore 4, 2) := by decide +kernel
theorem dX5_wear_42 : decode cX5_wear 42 = .ok (.aload_n 0, 1) := by decide +kernel
theorem dX5_wear_43 : decode cX5_wear 43 = .ok (.iload 4, 2) := by decide +kernel
theorem dX5_wear_45 : decode cX5_wear 45 = .ok (.invokevirtual 188, 3) := by decide +kernel
theorem dX5_wear_48 : decode cX5_wear 48 = .ok (.ifCond .eq 13, 3) := by decide +kernel
theorem dX5_wear_51 : decode cX5_wear 51 = .ok (.aload_n 0, 1) := by decide +kernel
theorem dX5_wear_52 : decode cX5_wear 52 = .ok (.getfield 46, 3) := by decide +kernel
theorem dX5_wear_55 : decode cX5_wear 55 = .ok (.iload 4, 2) := by decide +kernel
theorem dX5_wear_57 : decode cX5_wear 57 = .ok (.iaload, 1) := by decide +kernel
theorem dX5_wear_58 : decode cX5_wear 58 = .ok (.goto 4, 3) := by decide +kernel
theorem dX5_wear_61 : decode cX5_wear 61 = .ok (.iconst (-1), 1) := by decide +kernel
theorem dX5_wear_62 : decode cX5_wear 62 = .ok (.ireturn, 1) := by decide +kernel
theorem dX5_canPrint_0 : decode cX5_canPrint 0 = .ok (.aload_n 0, 1) := by decide +kernel
theorem dX5_canPrint_1 : decode cX5_canPrint 1 = .ok (.iload_n 1, 1) := by decide +kernel
theorem dX5_canPrint_2 : decode cX5_canPrint 2 = .ok (.invokevirtual 161, 3) := by decide +kernel
theorem dX5_canPrint_5 : decode cX5_canPrint 5 = .ok (.istore_n 3, 1) := by decide +kernel
theorem dX5_canPrint_6 : decode cX5_canPrint 6 = .ok (.iload_n 1, 1) := by decide +kernel
theorem dX5_canPrint_7 : decode cX5_canPrint 7 = .ok (.iconst 0, 1) := by decide +kernel
theorem dX5_canPrint_8 : decode cX5_canPrint 8 = .ok (.iconst 0, 1) := by decide +kernel
theorem dX5_canPrint_9 : decode cX5_canPrint 9 = .ok (.invokestatic 185, 3) := by decide +kernel
theorem dX5_canPrint_12 : decode cX5_canPrint 12 = .ok (.istore 4, 2) := by decide +kernel
theorem dX5_canPrint_14 : decode cX5_canPrint 14 = .ok (.iload 4, 2) := by decide +kernel
theorem dX5_canPrint_16 : decode cX5_canPrint 16 = .ok (.iload_n 1, 1) := by decide +kernel
theorem dX5_canPrint_17 : decode cX5_canPrint 17 = .ok (.iconst 1, 1) := by decide +kernel
theorem dX5_canPrint_18 : decode cX5_canPrint 18 = .ok (.iadd, 1) := by decide +kernel
theorem dX5_canPrint_19 : decode cX5_canPrint 19 = .ok (.iconst 0, 1) := by decide +kernel
theorem dX5_canPrint_20 : decode cX5_canPrint 20 = .ok (.iconst 0, 1) := by decide +kernel
theorem dX5_canPrint_21 : decode cX5_canPrint 21 = .ok (.invokestatic 185, 3) := by decide +kernel
theorem dX5_canPrint_24 : decode cX5_canPrint 24 = .ok (.if_icmp .ge 52, 3) := by decide +kernel
theorem dX5_canPrint_27 : decode cX5_canPrint 27 = .ok (.iload_n 3, 1) := by decide +kernel
theorem dX5_canPrint_28 : decode cX5_canPrint 28 = .ok (.ifCond .eq 40, 3) := by decide +kernel
theorem dX5_canPrint_31 : decode cX5_canPrint 31 = .ok (.aload_n 0, 1) := by decide +kernel
theorem dX5_canPrint_32 : decode cX5_canPrint 32 = .ok (.iload 4, 2) := by decide +kernel
theorem dX5_canPrint_34 : decode cX5_canPrint 34 = .ok (.invokevirtual 182, 3) := by decide +kernel
theorem dX5_canPrint_37 : decode cX5_canPrint 37 = .ok (.ifCond .eq 27, 3) := by decide +kernel
theorem dX5_canPrint_40 : decode cX5_canPrint 40 = .ok (.aload_n 0, 1) := by decide +kernel
theorem dX5_canPrint_41 : decode cX5_canPrint 41 = .ok (.iload 4, 2) := by decide +kernel
theorem dX5_canPrint_43 : decode cX5_canPrint 43 = .ok (.invokevirtual 188, 3) := by decide +kernel
theorem dX5_canPrint_46 : decode cX5_canPrint 46 = .ok (.ifCond .eq 22, 3) := by decide +kernel
theorem dX5_canPrint_49 : decode cX5_canPrint 49 = .ok (.aload_n 0, 1) := by decide +kernel
theorem dX5_canPrint_50 : decode cX5_canPrint 50 = .ok (.getfield 46, 3) := by decide +kernel
theorem dX5_canPrint_53 : decode cX5_canPrint 53 = .ok (.iload 4, 2) := by decide +kernel
theorem dX5_canPrint_55 : decode cX5_canPrint 55 = .ok (.iaload, 1) := by decide +kernel
theorem dX5_canPrint_56 : decode cX5_canPrint 56 = .ok (.iload_n 2, 1) := by decide +kernel
theorem dX5_canPrint_57 : decode cX5_canPrint 57 = .ok (.iadd, 1) := by decide +kernel
theorem dX5_canPrint_58 : decode cX5_canPrint 58 = .ok (.sipush 1000, 3) := by decide +kernel
theorem dX5_canPrint_61 : decode cX5_canPrint 61 = .ok (.if_icmp .gt 7, 3) := by decide +kernel
theorem dX5_canPrint_64 : decode cX5_canPrint 64 = .ok (.iconst 1, 1) := by decide +kernel
theorem dX5_canPrint_65 : decode cX5_canPrint 65 = .ok (.goto 4, 3) := by decide +kernel
theorem dX5_canPrint_68 : decode cX5_canPrint 68 = .ok (.iconst 0, 1) := by decide +kernel
theorem dX5_canPrint_69 : decode cX5_canPrint 69 = .ok (.istore_n 3, 1) := by decide +kernel
theorem dX5_canPrint_70 : decode cX5_canPrint 70 = .ok (.iinc 4 1, 3) := by decide +kernel
theorem dX5_canPrint_73 : decode cX5_canPrint 73 = .ok (.goto (-59), 3) := by decide +kernel
theorem dX5_canPrint_76 : decode cX5_canPrint 76 = .ok (.iload_n 3, 1) := by decide +kernel
theorem dX5_canPrint_77 : decode cX5_canPrint 77 = .ok (.ireturn, 1) := by decide +kernel
theorem dX5_print_0 : decode cX5_print 0 = .ok (.aload_n 0, 1) := by decide +kernel
theorem dX5_print_1 : decode cX5_print 1 = .ok (.iload_n 1, 1) := by decide +kernel
theorem dX5_print_2 : decode cX5_print 2 = .ok (.invokevirtual 132, 3) := by decide +kernel
theorem dX5_print_5 : decode cX5_print 5 = .ok (.istore_n 3, 1) := by decide +kernel
theorem dX5_print_6 : decode cX5_print 6 = .ok (.iload_n 2, 1) := by decide +kernel
theorem dX5_print_7 : decode cX5_print 7 = .ok (.iconst 1, 1) := by decide +kernel
theorem dX5_print_8 : decode cX5_print 8 = .ok (.sipush 500, 3) := by decide +kernel
theorem dX5_print_11 : decode cX5_print 11 = .ok (.invokestatic 73, 3) := by decide +kernel
theorem dX5_print_14 : decode cX5_print 14 = .ok (.istore 4, 2) := by decide +kernel
theorem dX5_print_16 : decode cX5_print 16 = .ok (.aload_n 0, 1) := by decide +kernel
theorem dX5_print_17 : decode cX5_print 17 = .ok (.iload_n 3, 1) := by decide +kernel
theorem dX5_print_18 : decode cX5_print 18 = .ok (.iload 4, 2) := by decide +kernel
theorem dX5_print_20 : decode cX5_print 20 = .ok (.iload_n 3, 1) := by decide +kernel
theorem dX5_print_21 : decode cX5_print 21 = .ok (.ifCond .eq 21, 3) := by decide +kernel
theorem dX5_print_24 : decode cX5_print 24 = .ok (.iload 4, 2) := by decide +kernel
theorem dX5_print_26 : decode cX5_print 26 = .ok (.ifCond .eq 16, 3) := by decide +kernel
theorem dX5_print_29 : decode cX5_print 29 = .ok (.aload_n 0, 1) := by decide +kernel
theorem dX5_print_30 : decode cX5_print 30 = .ok (.iload_n 1, 1) := by decide +kernel
theorem dX5_print_31 : decode cX5_print 31 = .ok (.iload_n 2, 1) := by decide +kernel
theorem dX5_print_32 : decode cX5_print 32 = .ok (.invokevirtual 194, 3) := by decide +kernel
theorem dX5_print_35 : decode cX5_print 35 = .ok (.ifCond .eq 7, 3) := by decide +kernel
theorem dX5_print_38 : decode cX5_print 38 = .ok (.iconst 1, 1) := by decide +kernel
theorem dX5_print_39 : decode cX5_print 39 = .ok (.goto 4, 3) := by decide +kernel
theorem dX5_print_42 : decode cX5_print 42 = .ok (.iconst 0, 1) := by decide +kernel
theorem dX5_print_43 : decode cX5_print 43 = .ok (.invokevirtual 101, 3) := by decide +kernel
theorem dX5_print_46 : decode cX5_print 46 = .ok (.ifCond .ne 5, 3) := by decide +kernel
theorem dX5_print_49 : decode cX5_print 49 = .ok (.iconst 0, 1) := by decide +kernel
theorem dX5_print_50 : decode cX5_print 50 = .ok (.ireturn, 1) := by decide +kernel
theorem dX5_print_51 : decode cX5_print 51 = .ok (.iload_n 1, 1) := by decide +kernel
theorem dX5_print_52 : decode cX5_print 52 = .ok (.iconst 0, 1) := by decide +kernel
theorem dX5_print_53 : decode cX5_print 53 = .ok (.iconst 0, 1) := by decide +kernel
theorem dX5_print_54 : decode cX5_print 54 = .ok (.invokestatic 185, 3) := by decide +kernel
theorem dX5_print_57 : decode cX5_print 57 = .ok (.istore 5, 2) := by decide +kernel
theorem dX5_print_59 : decode cX5_print 59 = .ok (.iload 5, 2) := by decide +kernel
theorem dX5_print_61 : decode cX5_print 61 = .ok (.iload_n 1, 1) := by decide +kernel
theorem dX5_print_62 : decode cX5_print 62 = .ok (.iconst 1, 1) := by decide +kernel
theorem dX5_print_63 : decode cX5_print 63 = .ok (.iadd, 1) := by decide +kernel
theorem dX5_print_64 : decode cX5_print 64 = .ok (.iconst 0, 1) := by decide +kernel
theorem dX5_print_65 : decode cX5_print 65 = .ok (.iconst 0, 1) := by decide +kernel
theorem dX5_print_66 : decode cX5_print 66 = .ok (.invokestatic 185, 3) := by decide +kernel
theorem dX5_print_69 : decode cX5_print 69 = .ok (.if_icmp .ge 33, 3) := by decide +kernel
theorem dX5_print_72 : decode cX5_print 72 = .ok (.aload_n 0, 1) := by decide +kernel
theorem dX5_print_73 : decode cX5_print 73 = .ok (.getfield 46, 3) := by decide +kernel
theorem dX5_print_76 : decode cX5_print 76 = .ok (.iload 5, 2) := by decide +kernel
theorem dX5_print_78 : decode cX5_print 78 = .ok (.dup2, 1) := by decide +kernel
theorem dX5_print_79 : decode cX5_print 79 = .ok (.iaload, 1) := by decide +kernel
theorem dX5_print_80 : decode cX5_print 80 = .ok (.aload_n 0, 1) := by decide +kernel
theorem dX5_print_81 : decode cX5_print 81 = .ok (.iload 5, 2) := by decide +kernel
theorem dX5_print_83 : decode cX5_print 83 = .ok (.invokevirtual 182, 3) := by decide +kernel
theorem dX5_print_86 : decode cX5_print 86 = .ok (.ifCond .le 7, 3) := by decide +kernel
theorem dX5_print_89 : decode cX5_print 89 = .ok (.iload_n 2, 1) := by decide +kernel
theorem dX5_print_90 : decode cX5_print 90 = .ok (.goto 4, 3) := by decide +kernel
theorem dX5_print_93 : decode cX5_print 93 = .ok (.iconst 0, 1) := by decide +kernel
theorem dX5_print_94 : decode cX5_print 94 = .ok (.iadd, 1) := by decide +kernel
theorem dX5_print_95 : decode cX5_print 95 = .ok (.iastore, 1) := by decide +kernel
theorem dX5_print_96 : decode cX5_print 96 = .ok (.iinc 5 1, 3) := by decide +kernel
theorem dX5_print_99 : decode cX5_print 99 = .ok (.goto (-40), 3) := by decide +kernel
theorem dX5_print_102 : decode cX5_print 102 = .ok (.aload_n 0, 1) := by decide +kernel
theorem dX5_print_103 : decode cX5_print 103 = .ok (.dup, 1) := by decide +kernel
theorem dX5_print_104 : decode cX5_print 104 = .ok (.getfield 197, 3) := by decide +kernel
theorem dX5_print_107 : decode cX5_print 107 = .ok (.iload_n 2, 1) := by decide +kernel
theorem dX5_print_108 : decode cX5_print 108 = .ok (.iadd, 1) := by decide +kernel
theorem dX5_print_109 : decode cX5_print 109 = .ok (.putfield 197, 3) := by decide +kernel
theorem dX5_print_112 : decode cX5_print 112 = .ok (.aload_n 0, 1) := by decide +kernel
theorem dX5_print_113 : decode cX5_print 113 = .ok (.getfield 197, 3) := by decide +kernel
theorem dX5_print_116 : decode cX5_print 116 = .ok (.ireturn, 1) := by decide +kernel
theorem dX5_plates_0 : decode cX5_plates 0 = .ok (.aload_n 0, 1) := by decide +kernel
theorem dX5_plates_1 : decode cX5_plates 1 = .ok (.aload_n 0, 1) := by decide +kernel
theorem dX5_plates_2 : decode cX5_plates 2 = .ok (.getfield 191, 3) := by decide +kernel
theorem dX5_plates_5 : decode cX5_plates 5 = .ok (.invokevirtual 125, 3) := by decide +kernel
theorem dX5_plates_8 : decode cX5_plates 8 = .ok (.ireturn, 1) := by decide +kernel
